/** Terms: what a FILE and a NUMBER are. */
public final class FileAndNumberTest {
    private static final Due DUE = new Due("FileAndNumberTest");
    private static final int[] MOVES = {136, 140, 144, 147, 151, 155};

    public static void main(String[] args) {
        rowOfAtMost600Bytes();
        addressesFrom0();
        highestByteFirst();
        highestByteFirstInUnits();
        highestByteFirstInPointers();
        highestByteFirstInFonts();
        notBelow0();
        notBelow0InScales();
        signedNumbers();
        signedMoves();
        DUE.end();
    }

    private static void rowOfAtMost600Bytes() {
        DUE.sentence("A FILE is a row of bytes, at most 600");
        FileMaker full = new FileMaker().start(1, 1, 1000).nothingsUpTo(574).begin(7).end().last(0).close();
        DUE.is("bytes of the full file", full.here(), 600);
        PageReader x = DUE.reads("600 bytes", full, 1);
        DUE.is("page(0, 2)", x.page(0, 2), 574);
        DUE.refuses("add(223, 1)", () -> x.add(223, 1), IllegalStateException.class);
        DUE.reads("600 bytes and a refused one", x, 1);
        FileMaker nothings = new FileMaker().start(1, 1, 1000);
        DUE.refusesAt("600 bytes without LAST", nothings.copy().nothingsUpTo(600), 600);
        DUE.refusesAt("a BEGIN that is whole at 601", nothings.copy().nothingsUpTo(596).raw(132, 0, 0, 255), 596);
    }

    private static void addressesFrom0() {
        DUE.sentence("at ADDRESSES 0, 1, ..");
        DUE.refusesAt("a wrong first byte", new FileMaker().raw(131), 0);
        FileMaker file = FileMaker.pageWithoutFont(1, 1, 1000).endWithoutFont(0);
        DUE.is("BEGIN behind START", DUE.reads("a page", file, 1).page(0, 2), 8);
        DUE.refusesAt("a wrong byte behind START", new FileMaker().start(1, 1, 1).raw(255), 8);
    }

    private static void highestByteFirst() {
        DUE.sentence("A NUMBER of n bytes has the highest byte first");
        FileMaker file = new FileMaker().start(1, 1, 1000).begin(0x0102);
        file.raw(130, 1, 2, 3, 4);
        for (int op : MOVES) {
            file.raw(op + 1, 1, 2).dot();
            file.raw(op + 2, 1, 2, 3).dot();
        }
        PageReader x = DUE.reads("numbers", file.endWithoutFont(0), 1);
        DUE.is("the page's number", x.page(0, 0), 258);
        DUE.is("the rule's height", x.item(0, 0, 1), 258);
        DUE.is("the rule's width", x.item(0, 0, 6), 772);
        for (int k = 1; k <= 12; k++) {
            int h = (Math.min(k, 6) + 1) / 2 * 258 + Math.min(k, 6) / 2 * 66051;
            int v = (Math.max(k - 6, 0) + 1) / 2 * 258 + Math.max(k - 6, 0) / 2 * 66051;
            DUE.stands("move " + k, x, 0, k, h, v, h, v);
        }
    }

    private static void highestByteFirstInUnits() {
        DUE.sentence("A NUMBER of n bytes has the highest byte first (NUM, DEN, MAG)");
        int[][] units = {{1, 2, 0, 1, 3, 232}, {1, 0, 0, 2, 3, 232}, {0, 1, 0, 1, 1, 2}};
        double[] conv = {258, 128, 0.258};
        for (int i = 0; i < units.length; i++) {
            FileMaker file = new FileMaker().raw(167, 2).raw(units[i]).raw(168, 255, 255).raw(units[i]).raw(0, 0, 0);
            PageReader x = DUE.reads("units", file.raw(169, 0, 8, 2, 223, 223, 223, 223), 0);
            DUE.isExactly("conv() of units " + i, x.conv(), conv[i]);
        }
    }

    private static void highestByteFirstInPointers() {
        DUE.sentence("A NUMBER of n bytes has the highest byte first (pointers)");
        FileMaker file = new FileMaker().start(1, 1, 1000).nothingsUpTo(258).begin(1).end().begin(2).end();
        file.last(0).close();
        DUE.is("page(0, 2)", DUE.reads("pointers above 255", file, 2).page(0, 2), 258);
        DUE.refusesAt("BEGIN, the lowest byte first", file.changed(267, 2, 1), 264);
        DUE.refusesAt("LAST, the lowest byte first", file.changed(271, 8, 1), 270);
        DUE.refusesAt("CLOSE, the lowest byte first", file.changed(283, 14, 1), 282);
        FileMaker pages = new FileMaker().start(1, 1, 1000).begin(1).end().last(0).close();
        DUE.refusesAt("a number of pages, the lowest byte first", pages.changed(24, 1, 0), 14);
    }

    private static void highestByteFirstInFonts() {
        DUE.sentence("A NUMBER of n bytes has the highest byte first (SCALE)");
        // At H = 4, HH is 8; a move of 10 is not small for the scale 60, but would be for 60 * 256.
        FileMaker file = new FileMaker().start(3, 2, 1000).raw(166, 0, 0, 0, 0, 60).begin(1).raw(158, 65, 65, 65, 65);
        PageReader x = file.raw(136, 10).dot().end().last(0).define(0, 0, 60).close().reader();
        x.width(0, 65, 1);
        DUE.reads("SCALE 60", x, 1);
        DUE.is("HH", x.item(0, 4, 4), 21);
        DUE.sentence("A NUMBER of n bytes has the highest byte first (MARK)");
        FileMaker marked = new FileMaker().start(1, 1, 1000).raw(166, 0, 1, 2, 3, 4).last(0);
        DUE.refusesAt("MARK, the lowest byte first", marked.copy().raw(166, 0, 2, 1, 3, 4).close(), 26);
        DUE.refusesAt("SCALE, the lowest byte first", marked.copy().raw(166, 0, 1, 2, 4, 3).close(), 26);
        DUE.reads("MARK and SCALE", marked.copy().raw(166, 0, 1, 2, 3, 4).close(), 0);
    }

    private static void notBelow0() {
        DUE.sentence("it is not below 0");
        int[][] units = {{32767, 1, 1000}, {32768, 1, 1000}, {65535, 1, 1000}, {32768, 32768, 1000}, {65535, 65535, 1000},
            {1, 1, 32767}, {1, 1, 32768}, {1, 1, 65535}};
        double[] conv = {32767, 32768, 65535, 1, 1, 32.767, 32.768, 65.535};
        for (int i = 0; i < units.length; i++) {
            FileMaker file = new FileMaker().start(units[i][0], units[i][1], units[i][2]).last(0).close();
            DUE.isExactly("conv() of units " + i, DUE.reads("units " + i, file, 0).conv(), conv[i]);
        }
        FileMaker fonts = new FileMaker().start(1, 1, 1000).define(0, 32768, 65535).define(1, 65535, 32768).last(0);
        DUE.reads("MARK and SCALE", fonts.define(0, 32768, 65535).define(1, 65535, 32768).close(), 0);
    }

    /** At H = 4 the pixels are 2 ahead, and stay so in small moves: below 32768 / 6 or 65535 / 6. */
    private static void notBelow0InScales() {
        DUE.sentence("it is not below 0 (SCALE)");
        int[][] scales = {{32767, 5460, 8198}, {32767, 5461, 8198}, {32768, 5460, 8198}, {32768, 5461, 8198},
            {65535, 10921, 16390}, {65535, 10922, 16389}};
        for (int[] s : scales) {
            FileMaker file = new FileMaker().start(3, 2, 1000).define(0, 0, s[0]).begin(1).raw(158, 65, 65, 65, 65);
            file.raw(137).number(s[1], 2).dot().end().last(0).define(0, 0, s[0]).close();
            PageReader x = file.reader();
            x.width(0, 65, 1);
            DUE.reads("scale " + s[0], x, 1);
            DUE.stands("scale " + s[0] + ", move " + s[1], x, 0, 4, 4 + s[1], 0, s[2], 0);
        }
    }

    private static void signedNumbers() {
        DUE.sentence("but SIGNED where that is said: the page's number");
        int[][] numbers = {{0, 0, 0}, {0, 1, 1}, {127, 255, 32767}, {128, 0, -32768}, {255, 255, -1}};
        for (int[] n : numbers) {
            FileMaker file = new FileMaker().start(1, 1, 1000).begin(n[0] << 8 | n[1]).endWithoutFont(0);
            DUE.is("page(0, 0)", DUE.reads("a page", file, 1).page(0, 0), n[2]);
        }
        DUE.sentence("but SIGNED where that is said: height and width");
        FileMaker rules = FileMaker.pageWithoutFont(1, 1, 1000).raw(130, 127, 255, 127, 255, 130, 128, 0, 0, 1);
        rules.raw(130, 0, 1, 128, 0, 129, 255, 255, 0, 1, 129, 0, 1, 255, 254, 129, 0, 1, 128, 0).dot();
        PageReader x = DUE.reads("rules", rules.endWithoutFont(0), 1);
        DUE.is("items", x.page(0, 1), 2);
        DUE.is("the greatest height", x.item(0, 0, 1), 32767);
        DUE.is("the greatest width", x.item(0, 0, 6), 32767);
        DUE.stands("behind the least width", x, 0, 1, 1 - 2 - 32768, 0, -32769, 0);
    }

    private static void signedMoves() {
        DUE.sentence("but SIGNED where that is said: a move");
        for (int op : MOVES) {
            for (int bytes = 1; bytes <= 3; bytes++) {
                int least = -1 << (8 * bytes - 1);
                for (int n : new int[] {least, least + 1, -1, 0, 1, -least - 1}) {
                    FileMaker file = FileMaker.pageWithoutFont(1, 1, 1000).raw(op + bytes - 1).number(n, bytes).dot();
                    PageReader x = DUE.reads("a move", file.endWithoutFont(0), 1);
                    int h = op < 147 ? n : 0;
                    int v = op < 147 ? 0 : n;
                    DUE.stands((op + bytes - 1) + " by " + n, x, 0, 0, h, v, h, v);
                }
            }
        }
    }
}
