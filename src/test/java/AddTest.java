/** Promise 2: add. */
public final class AddTest {
    private static final Due DUE = new Due("AddTest");

    public static void main(String[] args) {
        lowestByteFirst();
        howManyItHas();
        wrongNumbers();
        refusedOnesAddNothing();
        moreThan600();
        eachLastAdd();
        whatWasReadStays();
        DUE.end();
    }

    private static void lowestByteFirst() {
        DUE.sentence("Adds the n lowest bytes of a number, the lowest first, to the file");
        byte[] file = {(byte) 167, 2, 0, 1, 0, 1, 3, (byte) 232, (byte) 168, -1, -1, 0, 1, 0, 1, 3, (byte) 232, 0, 0, 0,
            (byte) 169, 0, 8, 2, (byte) 223, (byte) 223, (byte) 223, (byte) 223};
        for (int n = 1; n <= 8; n++) {
            PageReader x = new PageReader();
            for (int from = 0; from < file.length; from += n) {
                int part = Math.min(n, file.length - from);
                long packed = -1;
                for (int i = part - 1; i >= 0; i--) {
                    packed = packed << 8 | file[from + i] & 255;
                }
                DUE.is("add of " + part, x.add(packed, part), from + part);
            }
            DUE.reads("a file in parts of " + n, x, 0);
        }
    }

    private static void howManyItHas() {
        DUE.sentence("how many bytes it has");
        PageReader x = new PageReader();
        int sum = 0;
        for (int n = 1; n <= 8; n++) {
            sum += n;
            DUE.is("add(-1, " + n + ")", x.add(-1, n), sum);
        }
        DUE.is("add(Long.MIN_VALUE, 8)", x.add(Long.MIN_VALUE, 8), sum + 8);
        DUE.is("add(Long.MAX_VALUE, 1)", x.add(Long.MAX_VALUE, 1), sum + 9);
    }

    private static void wrongNumbers() {
        DUE.sentence("IllegalArgumentException: n is not 1 .. 8");
        PageReader x = new PageReader();
        for (int n : new int[] {0, 9, -1, 16, 256, 257, 600, 601, Integer.MIN_VALUE, Integer.MAX_VALUE}) {
            DUE.refuses("add(1, " + n + ")", () -> x.add(1, n), IllegalArgumentException.class);
        }
        DUE.is("cut(0) behind refused ones", x.cut(0), 0);
        DUE.is("add(1, 1)", x.add(1, 1), 1);
        DUE.is("add(1, 8)", x.add(1, 8), 9);
    }

    private static void refusedOnesAddNothing() {
        DUE.sentence("IllegalArgumentException, IllegalStateException: a refused call");
        PageReader x = FileMaker.withoutPages().reader();
        DUE.refuses("add(0, 9)", () -> x.add(0, 9), IllegalArgumentException.class);
        DUE.refuses("add(0, 0)", () -> x.add(0, 0), IllegalArgumentException.class);
        DUE.reads("behind refused ones", x, 0);
        FileMaker full = FileMaker.withoutPages().times(568, 223);
        PageReader y = full.reader();
        DUE.refuses("add(0, 8) to 596", () -> y.add(0, 8), IllegalStateException.class);
        DUE.refuses("add(0, 5) to 596", () -> y.add(0, 5), IllegalStateException.class);
        DUE.is("cut(0)", y.cut(0), 596);
        DUE.reads("behind refused ones", y, 0);
        DUE.is("add to 600", y.add(0xDFDFDFDFL, 4), 600);
        DUE.refuses("add(0, 1) to 600", () -> y.add(0, 1), IllegalStateException.class);
        DUE.reads("600 bytes", y, 0);
    }

    private static void moreThan600() {
        DUE.sentence("IllegalStateException: it would have more than 600");
        PageReader x = new PageReader();
        for (int i = 1; i <= 74; i++) {
            DUE.is("add", x.add(131, 8), 8 * i);
        }
        DUE.is("add(0, 1)", x.add(0, 1), 593);
        DUE.refuses("add(0, 8) to 593", () -> x.add(0, 8), IllegalStateException.class);
        DUE.is("add(0, 7) to 593", x.add(0, 7), 600);
        DUE.refuses("add(0, 1) to 600", () -> x.add(0, 1), IllegalStateException.class);
        DUE.refuses("add(0, 8) to 600", () -> x.add(0, 8), IllegalStateException.class);
        DUE.refuses("add(0, 9) to 600", () -> x.add(0, 9), IllegalArgumentException.class);
        DUE.refuses("add(0, 0) to 600", () -> x.add(0, 0), IllegalArgumentException.class);
        DUE.refuses("add(0, -1) to 600", () -> x.add(0, -1), IllegalArgumentException.class);
        DUE.is("cut(0)", x.cut(0), 600);
        DUE.is("cut(3)", x.cut(3), 597);
        DUE.is("add(0, 3)", x.add(0, 3), 600);
    }

    /** For each n the last file to which it may be added, and the first one to which it may not. */
    private static void eachLastAdd() {
        DUE.sentence("IllegalStateException: it would have more than 600, for each n");
        PageReader x = new PageReader();
        for (int i = 0; i < 75; i++) {
            x.add(0, 8);
        }
        for (int n = 1; n <= 8; n++) {
            int part = n;
            x.cut(n - 1);
            DUE.refuses("add(0, " + n + ") to " + (601 - n), () -> x.add(0, part), IllegalStateException.class);
            x.cut(1);
            DUE.is("add(0, " + n + ") to " + (600 - n), x.add(0, n), 600);
        }
    }

    private static void whatWasReadStays() {
        DUE.sentence("(What was read stays.)");
        FileMaker file = FileMaker.pageWithFont(3, 2).raw(136, 4, 65).endWithFont(0);
        PageReader x = DUE.reads("before add", file, 1);
        x.add(0, 1);
        stays("add", x);
        DUE.refuses("add(0, 0)", () -> x.add(0, 0), IllegalArgumentException.class);
        stays("a refused add", x);
        // CLOSE stands behind 20 bytes of pageWithFont, 3 of the page, END, LAST and DEFINE.
        DUE.refusesAt("behind add", x, 20 + 3 + 1 + 12 + 6);
        x.add(0, 1);
        DUE.is("wrong() behind add", x.wrong(), 42);
        DUE.hasNone("page(0, 0): nothing was read, and that stays, too", () -> x.page(0, 0));
    }

    private static void stays(String what, PageReader x) {
        DUE.is("wrong() behind " + what, x.wrong(), -1);
        DUE.is("page(0, 0) behind " + what, x.page(0, 0), 1);
        DUE.is("page(0, 1) behind " + what, x.page(0, 1), 1);
        DUE.is("page(0, 2) behind " + what, x.page(0, 2), 14);
        DUE.is("item(0, 0, 0) behind " + what, x.item(0, 0, 0), 65);
        DUE.stands("behind " + what, x, 0, 0, 4, 0, 6, 0);
        DUE.isExactly("conv() behind " + what, x.conv(), 1.5);
        DUE.is("most(0) behind " + what, x.most(0), 4);
    }
}
