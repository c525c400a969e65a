/** Promise 1: a new object. */
public final class NewObjectTest {
    private static final Due DUE = new Due("NewObjectTest");

    public static void main(String[] args) {
        emptyFile();
        allWidthsAre0();
        nothingWasRead();
        objectsAreApart();
        DUE.end();
    }

    private static void emptyFile() {
        DUE.sentence("An empty file");
        PageReader x = new PageReader();
        DUE.is("cut(0)", x.cut(0), 0);
        DUE.refuses("cut(1)", () -> x.cut(1), IllegalArgumentException.class);
        DUE.refusesAt("an empty file", x, 0);
        DUE.is("add(167, 1)", x.add(167, 1), 1);
    }

    private static void allWidthsAre0() {
        DUE.sentence("all widths are 0");
        for (int font = 0; font < 8; font++) {
            FileMaker file = new FileMaker().start(1, 1, 1000).define(font, 0, 10).begin(0).raw(158 + font);
            for (int c = 0; c < 128; c++) {
                file.raw(c);
            }
            PageReader x = DUE.reads("font " + font, file.dot().end().last(0).define(font, 0, 10).close(), 1);
            for (int k = 0; k <= 128; k++) {
                DUE.is("H of item " + k, x.item(0, k, 2), 0);
                DUE.is("HH of item " + k, x.item(0, k, 4), 0);
            }
        }
    }

    private static void nothingWasRead() {
        DUE.sentence("nothing was read");
        PageReader x = new PageReader();
        DUE.is("wrong()", x.wrong(), -1);
        DUE.isExactly("conv()", x.conv(), 0.0);
        for (int what = -1; what <= 9; what++) {
            int part = what;
            DUE.hasNone("page(0, " + part + ")", () -> x.page(0, part));
            DUE.hasNone("item(0, 0, " + part + ")", () -> x.item(0, 0, part));
            DUE.is("most(" + part + ")", x.most(part), 0);
        }
        DUE.hasNone("page(-1, 0)", () -> x.page(-1, 0));
        DUE.hasNone("item(-1, 0, 0)", () -> x.item(-1, 0, 0));
        DUE.hasNone("item(0, -1, 0)", () -> x.item(0, -1, 0));
        FileMaker.withoutPages().into(x);
        DUE.is("wrong() of a file that was not read", x.wrong(), -1);
        DUE.isExactly("conv() of a file that was not read", x.conv(), 0.0);
    }

    /** What one object holds does not reach the next one. */
    private static void objectsAreApart() {
        DUE.sentence("A new object");
        FileMaker file = FileMaker.pageWithFont(3, 2).raw(65, 65).endWithFont(0);
        PageReader first = file.reader();
        first.width(0, 65, 7);
        DUE.reads("the first object", first, 1);
        PageReader second = new PageReader();
        DUE.is("cut(0)", second.cut(0), 0);
        DUE.is("wrong()", second.wrong(), -1);
        DUE.isExactly("conv()", second.conv(), 0.0);
        DUE.hasNone("page(0, 0)", () -> second.page(0, 0));
        DUE.reads("the second object", file.into(second), 1);
        DUE.stands("the second object", second, 0, 1, 0, 0, 0, 0);
        DUE.stands("the first object", first, 0, 1, 7, 0, 11, 0);
    }
}
