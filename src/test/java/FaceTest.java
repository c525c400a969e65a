import java.lang.reflect.Constructor;
import java.lang.reflect.Executable;
import java.lang.reflect.Method;
import java.lang.reflect.Modifier;
import java.util.Arrays;
import java.util.Set;
import java.util.TreeSet;

/** The public face: just the document's members. */
public final class FaceTest {
    public static void main(String[] args) {
        Due due = new Due("FaceTest");
        Set<String> face = new TreeSet<>(Arrays.asList(
            "PageReader()", "int add(long, int) IllegalArgumentException IllegalStateException",
            "int cut(int) IllegalArgumentException", "boolean width(int, int, int)",
            "int read() UnsupportedOperationException", "int wrong()", "int page(int, int) NoSuchElementException",
            "int item(int, int, int) NoSuchElementException", "double conv()", "int most(int)"));
        Set<String> found = new TreeSet<>();
        for (Constructor<?> c : PageReader.class.getDeclaredConstructors()) {
            note(found, c, "PageReader");
        }
        for (Method m : PageReader.class.getDeclaredMethods()) {
            note(found, m, m.getReturnType() + " " + m.getName());
        }
        due.is("the face is " + found, found.equals(face), true);
        due.is("public and final", PageReader.class.getModifiers(), Modifier.PUBLIC | Modifier.FINAL);
        Arrays.stream(PageReader.class.getDeclaredFields())
            .forEach(f -> due.is("private " + f.getName(), Modifier.isPrivate(f.getModifiers()), true));
        due.sentence("LANGUAGE.md, 1: no private method bears the name of a public one");
        noPrivateNamesakes(due, PageReader.class);
        for (Class<?> inside : PageReader.class.getDeclaredClasses()) {
            noPrivateNamesakes(due, inside);
        }
        classesInside(due);
        due.end();
    }

    private static void noPrivateNamesakes(Due due, Class<?> owner) {
        Set<String> publicNames = new TreeSet<>();
        for (Method m : PageReader.class.getMethods()) {
            publicNames.add(m.getName());
        }
        for (Method m : owner.getDeclaredMethods()) {
            boolean namesake = Modifier.isPrivate(m.getModifiers()) && publicNames.contains(m.getName());
            due.is(owner.getSimpleName() + "." + m.getName(), namesake, false);
        }
    }

    private static void classesInside(Due due) {
        due.sentence("LANGUAGE.md, 1: the classes inside are private or package-visible and static");
        for (Class<?> inside : PageReader.class.getDeclaredClasses()) {
            int seen = inside.getModifiers() & (Modifier.PUBLIC | Modifier.PROTECTED | Modifier.STATIC);
            due.is("modifiers of " + inside.getSimpleName(), seen, Modifier.STATIC);
        }
    }

    private static String thrown(Executable member) {
        Set<String> names = new TreeSet<>();
        for (Class<?> type : member.getExceptionTypes()) {
            names.add(" " + type.getSimpleName());
        }
        return String.join("", names);
    }

    private static void note(Set<String> found, Executable member, String name) {
        if (!Modifier.isPrivate(member.getModifiers())) {
            StringBuilder parameters = new StringBuilder();
            for (Class<?> type : member.getParameterTypes()) {
                parameters.append(parameters.length() == 0 ? "" : ", ").append(type);
            }
            found.add(name + "(" + parameters + ")" + thrown(member));
        }
    }
}
