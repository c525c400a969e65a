/** Promise 3: cut. */
public final class CutTest {
    public static void main(String[] args) {
        Due due = new Due("CutTest");
        PageReader x = new PageReader();
        x.add(0, 8);
        due.is("cut(0)", x.cut(0), 8);
        due.is("cut(3)", x.cut(3), 5);
        int[] wrong = {6, -1, 600, Integer.MIN_VALUE, Integer.MAX_VALUE};
        for (int n : wrong) {
            due.refuses("cut(" + n + ")", () -> x.cut(n), IllegalArgumentException.class);
        }
        due.is("cut(0) behind refused ones", x.cut(0), 5);
        due.is("cut(5)", x.cut(5), 0);
        due.refuses("cut(1) of nothing", () -> x.cut(1), IllegalArgumentException.class);
        due.is("add(0, 2)", x.add(0, 2), 2);
        lastBytesGo(due);
        due.end();
    }

    private static void lastBytesGo(Due due) {
        FileMaker file = FileMaker.withoutPages();
        PageReader x = due.reads("a whole file", file, 0);
        x.add(0x0102030405060708L, 8);
        due.refusesAt("with more behind it", x, 20);
        due.is("cut(8)", x.cut(8), file.here());
        due.is("wrong() behind cut", x.wrong(), 20);
        due.reads("the whole file again", x, 0);
        due.is("cut(4)", x.cut(4), file.here() - 4);
        due.isExactly("conv() behind cut", x.conv(), 1.0);
        due.is("wrong() behind cut", x.wrong(), -1);
        due.refusesAt("without its end", x, 20);
        due.is("add", x.add(0xDFDFDFDFL, 4), file.here());
        due.reads("with its end again", x, 0);
    }
}
