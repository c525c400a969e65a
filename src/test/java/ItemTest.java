/** Promise 8: item, and the place at which each item stands. */
public final class ItemTest {
    private static final Due DUE = new Due("ItemTest");
    private static final int LEAST = Integer.MIN_VALUE;
    private static final int GREATEST = Integer.MAX_VALUE;

    public static void main(String[] args) {
        DUE.sentence("Of item k (from 0) of page p: what = 0 .. 8");
        parts();
        partsOfRules();
        noSuchItem();
        noSuchPage();
        noSuchPart();
        nothingWasRead();
        DUE.sentence("2 H, 3 V, 4 HH, 5 VV");
        rules();
        strides();
        pushAndPop();
        pagesBeginAnew();
        DUE.end();
    }

    private static void all(String what, PageReader x, int p, int k, int... want) {
        for (int part = 0; part < 9; part++) {
            DUE.is(what + ": item(" + p + ", " + k + ", " + part + ")", x.item(p, k, part), want[part]);
        }
    }

    private static void parts() {
        FileMaker file = new FileMaker().start(3, 2, 1000).define(5, 7, 60).begin(1);
        file.raw(163, 136, 3, 147, 1, 127, 128, 0).rule(130, 3, 5).end();
        file.begin(2).rule(129, 32767, 1).raw(163, 9).end().last(0).define(5, 7, 60).close();
        PageReader x = file.reader();
        x.width(5, 127, 4);
        DUE.reads("parts", x, 2);
        all("SET", x, 0, 0, 127, 5, 3, 1, 5, 2, 0, 0, 0);
        all("PUT", x, 0, 1, 0, 5, 7, 1, 11, 2, 0, 0, 0);
        all("a rule", x, 0, 2, 128, 3, 7, 1, 11, 2, 5, 8, 5);
        all("a rule on the next page", x, 1, 0, 128, 32767, 0, 0, 0, 0, 1, 2, 49151);
        all("a character on the next page", x, 1, 1, 9, 5, 1, 0, 2, 0, 0, 0, 0);
    }

    /** C of a rule's numbers is told with the CONV of what was read, not of a file that came later. */
    private static void partsOfRules() {
        DUE.sentence("6 the rule's width (0 for a character), 7 C of that, 8 C of its height (0 for a character)");
        FileMaker file = FileMaker.pageWithFont(3, 2).rule(130, 1, 32767).rule(129, 32767, 1).raw(127).endWithFont(0);
        PageReader x = DUE.reads("rules", file, 1);
        all("a wide rule", x, 0, 0, 128, 1, 0, 0, 0, 0, 32767, 49151, 2);
        all("a high rule", x, 0, 1, 128, 32767, 0, 0, 0, 0, 1, 2, 49151);
        all("a character", x, 0, 2, 127, 0, 1, 0, 2, 0, 0, 0, 0);
        x.cut(x.cut(0));
        new FileMaker().start(1, 1, 1000).last(0).close().into(x);
        all("a wide rule, another file ahead of its read()", x, 0, 0, 128, 1, 0, 0, 0, 0, 32767, 49151, 2);
    }

    private static PageReader threePages() {
        FileMaker file = FileMaker.pageWithFont(1, 1).raw(65, 66).end().begin(2).end().begin(3).raw(158, 67);
        return DUE.reads("three pages", file.endWithFont(0), 3);
    }

    private static void none(PageReader x, int p, int k, int what) {
        DUE.hasNone("item(" + p + ", " + k + ", " + what + ")", () -> x.item(p, k, what));
    }

    private static void noSuchItem() {
        DUE.sentence("NoSuchElementException: there is none (no item)");
        PageReader x = threePages();
        for (int what = 0; what < 9; what++) {
            none(x, 0, 2, what);
            none(x, 0, -1, what);
            none(x, 1, 0, what);
            none(x, 1, -1, what);
            none(x, 2, 1, what);
            none(x, 2, -1, what);
        }
        for (int k : new int[] {3, 199, 200, LEAST, GREATEST}) {
            none(x, 0, k, 0);
            none(x, 2, k, 0);
        }
        DUE.is("item(0, 0, 0)", x.item(0, 0, 0), 65);
        DUE.is("item(0, 1, 0)", x.item(0, 1, 0), 66);
        DUE.is("item(2, 0, 0)", x.item(2, 0, 0), 67);
    }

    private static void noSuchPage() {
        DUE.sentence("NoSuchElementException: there is none (no page)");
        PageReader x = threePages();
        for (int p : new int[] {-1, 3, 4, 11, 12, LEAST, GREATEST}) {
            none(x, p, 0, 0);
            none(x, p, -1, 0);
            none(x, p, 0, 8);
        }
        PageReader y = DUE.reads("no pages", FileMaker.withoutPages(), 0);
        none(y, 0, 0, 0);
    }

    private static void noSuchPart() {
        DUE.sentence("NoSuchElementException: what is not 0 .. 8");
        PageReader x = threePages();
        FileMaker rule = FileMaker.pageWithoutFont(1, 1, 1000).dot();
        PageReader y = DUE.reads("a rule", rule.endWithoutFont(0), 1);
        for (int what : new int[] {-1, 9, 10, 128, LEAST, GREATEST}) {
            none(x, 0, 0, what);
            none(x, 0, 1, what);
            none(x, 2, 0, what);
            none(x, 0, 2, what);
            none(y, 0, 0, what);
        }
        DUE.is("item(0, 0, 8) of a character", x.item(0, 0, 8), 0);
        DUE.is("item(0, 0, 8) of a rule", y.item(0, 0, 8), 1);
    }

    private static void nothingWasRead() {
        DUE.sentence("NoSuchElementException: there is none, since nothing was read");
        PageReader x = FileMaker.pageWithFont(1, 1).raw(65).endWithFont(0).reader();
        none(x, 0, 0, 0);
        DUE.reads("an item", x, 1);
        DUE.is("item(0, 0, 0)", x.item(0, 0, 0), 65);
        x.add(0, 1);
        DUE.is("item(0, 0, 0) behind add", x.item(0, 0, 0), 65);
        DUE.refuses("read()", x::read, UnsupportedOperationException.class);
        for (int what = 0; what < 9; what++) {
            none(x, 0, 0, what);
        }
    }

    /** Rules that are no items move all the same. */
    private static void rules() {
        FileMaker file = FileMaker.pageWithoutFont(3, 2, 1000);
        file.rule(130, 1, 100).rule(129, 1, 3).rule(130, 1, 1).rule(129, 0, 3).rule(130, 1, 1);
        file.rule(129, 1, -3).rule(130, 1, 1).rule(129, 1, 0).rule(130, 1, 1).rule(130, -5, 5).rule(130, 1, 1);
        file.rule(129, -32768, -32768).rule(130, 1, 1);
        PageReader x = DUE.reads("rules", file.endWithoutFont(0), 1);
        DUE.is("items", x.page(0, 1), 8);
        DUE.stands("PUT RULE", x, 0, 0, 0, 0, 0, 0);
        DUE.stands("behind PUT RULE", x, 0, 1, 0, 0, 0, 0);
        DUE.stands("behind SET RULE", x, 0, 2, 3, 0, 5, 0);
        DUE.stands("behind height 0", x, 0, 3, 6, 0, 10, 0);
        DUE.stands("behind width -3", x, 0, 4, 3, 0, 5, 0);
        DUE.stands("behind width 0", x, 0, 5, 3, 0, 5, 0);
        DUE.stands("behind PUT RULE with height -5", x, 0, 6, 3, 0, 5, 0);
        DUE.stands("behind width -32768", x, 0, 7, -32765, 0, -49147, 0);
    }

    /** W, X, Y and Z are kept apart, and moves have 1 to 3 signed bytes. */
    private static void strides() {
        FileMaker file = FileMaker.pageWithoutFont(1, 1, 1000);
        int[][] moves = {{139}, {143}, {150}, {154}, {140, 5}, {144, 255}, {151, 128}, {155, 127}, {139}, {143}, {150},
            {154}, {141, 1, 0}, {145, 255, 0}, {152, 128, 0}, {156, 127, 255}, {139}, {143}, {150}, {154},
            {142, 1, 0, 0}, {146, 255, 0, 0}, {153, 128, 0, 0}, {157, 127, 255, 255}, {139}, {143}, {150}, {154},
            {136, 128}, {137, 128, 0}, {138, 128, 0, 0}, {147, 127}, {148, 127, 255}, {149, 127, 255, 255}};
        int[][] steps = {{0, 0}, {0, 0}, {0, 0}, {0, 0}, {5, 0}, {-1, 0}, {0, -128}, {0, 127}, {5, 0}, {-1, 0},
            {0, -128}, {0, 127}, {256, 0}, {-256, 0}, {0, -32768}, {0, 32767}, {256, 0}, {-256, 0}, {0, -32768},
            {0, 32767}, {65536, 0}, {-65536, 0}, {0, -8388608}, {0, 8388607}, {65536, 0}, {-65536, 0},
            {0, -8388608}, {0, 8388607}, {-128, 0}, {-32768, 0}, {-8388608, 0}, {0, 127}, {0, 32767}, {0, 8388607}};
        for (int[] move : moves) {
            file.raw(move).rule(130, 1, 1);
        }
        PageReader x = DUE.reads("moves", file.endWithoutFont(0), 1);
        int h = 0;
        int v = 0;
        for (int k = 0; k < moves.length; k++) {
            h += steps[k][0];
            v += steps[k][1];
            DUE.stands("move " + moves[k][0], x, 0, k, h, v, h, v);
        }
    }

    private static void pushAndPop() {
        FileMaker file = new FileMaker().start(3, 2, 1000).define(0, 0, 64).define(1, 0, 0).begin(1).raw(158);
        // The pixels are 2 ahead of R(H) and R(V) at PUSH: POP has to bring them back, not to make them anew.
        file.raw(65, 65, 65, 65).times(4, 147, 1).raw(140, 1, 144, 2, 151, 3, 155, 4).rule(130, 1, 1);
        file.raw(134, 140, 50, 144, 51, 151, 52, 155, 53, 159, 134, 136, 9, 135, 66, 135, 66);
        file.raw(139, 66, 143, 66, 150, 66, 154, 66).end().last(2).define(0, 0, 64).define(1, 0, 0).close();
        PageReader x = file.reader();
        x.width(0, 65, 1);
        DUE.reads("PUSH and POP", x, 1);
        DUE.stands("at PUSH", x, 0, 4, 7, 11, 13, 19);
        DUE.stands("behind POP of an inner PUSH", x, 0, 5, 108, 116, 162, 174);
        DUE.stands("behind POP", x, 0, 6, 7, 11, 13, 19);
        DUE.is("the font stays", x.item(0, 6, 1), 1);
        DUE.stands("W is back", x, 0, 7, 8, 11, 12, 19);
        DUE.stands("X is back", x, 0, 8, 10, 11, 15, 19);
        DUE.stands("Y is back", x, 0, 9, 10, 14, 15, 21);
        DUE.stands("Z is back", x, 0, 10, 10, 18, 15, 27);
    }

    private static void pagesBeginAnew() {
        FileMaker file = FileMaker.pageWithFont(3, 2).raw(140, 9, 144, 9, 151, 9, 155, 9, 65).end().begin(2);
        file.raw(139, 143, 150, 154).rule(130, 1, 1);
        // Without a font of this page the small moves do not sum up pixels.
        file.times(4, 136, 1).times(4, 147, 1).rule(130, 1, 1).endWithFont(0);
        PageReader x = DUE.reads("a second page", file, 2);
        DUE.stands("the first page", x, 0, 0, 18, 18, 28, 28);
        DUE.stands("the second page", x, 1, 0, 0, 0, 0, 0);
        DUE.stands("moves without a font", x, 1, 1, 4, 4, 6, 6);
    }
}
