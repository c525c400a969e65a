import java.util.NoSuchElementException;
import java.util.function.IntSupplier;

/** Compares answers with those that are due, and ends the test with exit code 1 if one differed. */
final class Due {
    private final String test;
    private String sentence = "";
    private int calls = 0;
    private int callsOfSentence = 0;
    private int wrong = 0;

    Due(String test) {
        this.test = test;
    }

    /** What is compared from here on belongs to this sentence of the document. */
    void sentence(String words) {
        endSentence();
        sentence = words;
        callsOfSentence = 0;
    }

    /** A sentence for which nothing was compared has no test. */
    private void endSentence() {
        if (!sentence.isEmpty() && callsOfSentence == 0) {
            tell("no call", "nothing", "an answer");
        }
    }

    private void count() {
        calls++;
        callsOfSentence++;
    }

    void is(String call, long got, long want) {
        count();
        if (got != want) {
            tell(call, Long.toString(got), Long.toString(want));
        }
    }

    void is(String call, boolean got, boolean want) {
        is(call, got ? 1 : 0, want ? 1 : 0);
    }

    /** Bit by bit, as CONV is told in steps. */
    void isExactly(String call, double got, double want) {
        count();
        if (Double.doubleToLongBits(got) != Double.doubleToLongBits(want)) {
            tell(call, Double.toString(got), Double.toString(want));
        }
    }

    void refuses(String call, IntSupplier made, Class<? extends RuntimeException> want) {
        count();
        try {
            tell(call, Integer.toString(made.getAsInt()), want.getSimpleName());
        } catch (RuntimeException e) {
            if (e.getClass() != want) {
                tell(call, e.toString(), want.getSimpleName());
            }
        }
    }

    void hasNone(String call, IntSupplier made) {
        refuses(call, made, NoSuchElementException.class);
    }

    /** The file is read, and has so many pages. */
    PageReader reads(String what, FileMaker file, int pages) {
        PageReader x = file.reader();
        reads(what, x, pages);
        return x;
    }

    void reads(String what, PageReader x, int pages) {
        count();
        try {
            int got = x.read();
            is(what + ": read()", got, pages);
        } catch (UnsupportedOperationException e) {
            tell(what + ": read()", "UnsupportedOperationException at " + x.wrong(), Integer.toString(pages));
        }
        is(what + ": wrong()", x.wrong(), -1);
    }

    /** The file is refused at the address, and leaves nothing read. */
    void refusesAt(String what, FileMaker file, int address) {
        refusesAt(what, file.reader(), address);
    }

    void refusesAt(String what, PageReader x, int address) {
        refuses(what + ": read()", x::read, UnsupportedOperationException.class);
        is(what + ": wrong()", x.wrong(), address);
        hasNone(what + ": page(0, 0)", () -> x.page(0, 0));
        hasNone(what + ": item(0, 0, 0)", () -> x.item(0, 0, 0));
        isExactly(what + ": conv()", x.conv(), 0.0);
        for (int i = 0; i < 4; i++) {
            is(what + ": most(" + i + ")", x.most(i), 0);
        }
    }

    /** H, V, HH and VV of an item. */
    void stands(String what, PageReader x, int p, int k, int... place) {
        for (int i = 0; i < place.length; i++) {
            int part = 2 + i;
            is(what + ": item(" + p + ", " + k + ", " + part + ")", x.item(p, k, part), place[i]);
        }
    }

    void end() {
        endSentence();
        System.out.println(test + ": " + calls + " calls, " + wrong + " answers not as due");
        if (wrong != 0) {
            System.exit(1);
        }
    }

    private void tell(String call, String got, String want) {
        wrong++;
        String where = sentence.isEmpty() ? test : test + " [" + sentence + "]";
        System.out.println(where + ": " + call + " answered " + got + ", due is " + want);
    }
}
