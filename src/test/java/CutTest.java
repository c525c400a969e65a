/** Promise 3: cut. */
public final class CutTest {
    private static final Due DUE = new Due("CutTest");

    public static void main(String[] args) {
        lastBytesGo();
        howManyAreLeft();
        wrongNumbers();
        refusedOnesCutNothing();
        whatWasReadStays();
        DUE.end();
    }

    private static void lastBytesGo() {
        DUE.sentence("Takes the last n bytes away");
        FileMaker file = FileMaker.withoutPages();
        PageReader x = DUE.reads("a whole file", file, 0);
        x.add(0x0102030405060708L, 8);
        DUE.refusesAt("with more behind it", x, 20);
        DUE.is("cut(8)", x.cut(8), file.here());
        DUE.is("wrong() behind cut", x.wrong(), 20);
        DUE.reads("the whole file again", x, 0);
        DUE.is("cut(4)", x.cut(4), file.here() - 4);
        DUE.refusesAt("without its end", x, 20);
        DUE.is("add", x.add(0xDFDFDFDFL, 4), file.here());
        DUE.reads("with its end again", x, 0);
        // What was cut is not there for a command that is not whole.
        DUE.is("cut(6)", x.cut(6), 22);
        DUE.refusesAt("CLOSE is not whole", x, 20);
        DUE.is("cut(2)", x.cut(2), 20);
        DUE.refusesAt("CLOSE is missing", x, 20);
        DUE.is("cut(1)", x.cut(1), 19);
        DUE.refusesAt("LAST is not whole", x, 8);
    }

    private static void howManyAreLeft() {
        DUE.sentence("how many are left");
        PageReader x = new PageReader();
        x.add(0, 8);
        DUE.is("cut(0)", x.cut(0), 8);
        DUE.is("cut(3)", x.cut(3), 5);
        DUE.is("cut(1)", x.cut(1), 4);
        DUE.is("cut(4)", x.cut(4), 0);
        DUE.is("cut(0)", x.cut(0), 0);
        DUE.is("add(0, 2)", x.add(0, 2), 2);
        for (int i = 0; i < 74; i++) {
            x.add(0, 8);
        }
        x.add(0, 6);
        DUE.is("cut(600)", x.cut(600), 0);
    }

    private static void wrongNumbers() {
        DUE.sentence("IllegalArgumentException: n is not 0 .. the number there is");
        PageReader x = new PageReader();
        refusesAll(x, 1, 8, 600);
        DUE.is("add(0, 5)", x.add(0, 5), 5);
        refusesAll(x, 6, 7, 8, 600, 601);
        DUE.is("cut(5)", x.cut(5), 0);
        refusesAll(x, 1, 5);
        DUE.is("cut(0)", x.cut(0), 0);
        for (int i = 0; i < 75; i++) {
            x.add(0, 8);
        }
        refusesAll(x, 601);
        DUE.is("cut(599)", x.cut(599), 1);
        refusesAll(x, 2);
        DUE.is("cut(1)", x.cut(1), 0);
    }

    private static void refusesAll(PageReader x, int... numbers) {
        for (int n : numbers) {
            DUE.refuses("cut(" + n + ")", () -> x.cut(n), IllegalArgumentException.class);
        }
        for (int n : new int[] {-1, -600, Integer.MIN_VALUE, Integer.MAX_VALUE}) {
            DUE.refuses("cut(" + n + ")", () -> x.cut(n), IllegalArgumentException.class);
        }
    }

    private static void refusedOnesCutNothing() {
        DUE.sentence("IllegalArgumentException: a refused call");
        PageReader x = FileMaker.withoutPages().reader();
        refusesAll(x, 29);
        DUE.is("cut(0) behind refused ones", x.cut(0), 28);
        DUE.reads("behind refused ones", x, 0);
    }

    private static void whatWasReadStays() {
        DUE.sentence("Takes the last n bytes away: what was read is not taken");
        PageReader x = DUE.reads("a file", FileMaker.pageWithFont(3, 2).raw(136, 4, 65).endWithFont(0), 1);
        DUE.is("cut", x.cut(x.cut(0)), 0);
        DUE.is("wrong() behind cut", x.wrong(), -1);
        DUE.is("page(0, 1) behind cut", x.page(0, 1), 1);
        DUE.stands("behind cut", x, 0, 0, 4, 0, 6, 0);
        DUE.isExactly("conv() behind cut", x.conv(), 1.5);
        DUE.is("most(0) behind cut", x.most(0), 4);
    }
}
