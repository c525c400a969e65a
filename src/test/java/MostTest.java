/** Promise 10: most. */
public final class MostTest {
    private static final Due DUE = new Due("MostTest");

    public static void main(String[] args) {
        overAllPages();
        onlyOnOneSide();
        unitsNotPixels();
        oneItem();
        noItems();
        nothingWasRead();
        otherWhats();
        DUE.end();
    }

    private static void mosts(String what, PageReader x, int... want) {
        for (int i = 0; i < 4; i++) {
            DUE.is(what + ": most(" + i + ")", x.most(i), want[i]);
        }
    }

    private static PageReader threePages() {
        FileMaker file = FileMaker.pageWithFont(3, 2).raw(136, 256 - 20, 65, 136, 50, 147, 9, 65).end();
        file.begin(2).raw(136, 5, 147, 100).dot().end();
        file.begin(3).raw(147, 256 - 70).dot().raw(136, 7).end().last(0).define(0, 7, 64).close();
        return DUE.reads("three pages", file, 3);
    }

    private static void overAllPages() {
        DUE.sentence("over all items: what = 0 the greatest H, 1 the greatest V, 2 the least H, 3 the least V");
        mosts("three pages", threePages(), 30, 100, -20, -70);
        // Each of the four in the first, the last and a middle item.
        int[][] moves = {{50, 10}, {30, 40}, {20, 5}};
        int[][] orders = {{0, 1, 2}, {0, 2, 1}, {1, 0, 2}, {1, 2, 0}, {2, 0, 1}, {2, 1, 0}};
        for (int[] order : orders) {
            FileMaker file = FileMaker.pageWithoutFont(1, 1, 1000);
            for (int i : order) {
                file.raw(134, 136, moves[i][0], 147, moves[i][1]).dot().raw(135);
            }
            mosts("three items", DUE.reads("three items", file.endWithoutFont(1), 1), 50, 40, 20, 5);
        }
        FileMaker far = FileMaker.pageWithoutFont(1, 1, 1000).raw(134).farRight(Integer.MAX_VALUE).dot().raw(135);
        far.farRight(Integer.MIN_VALUE).dot();
        PageReader x = DUE.reads("far", far.endWithoutFont(1), 1);
        mosts("far", x, Integer.MAX_VALUE, 0, Integer.MIN_VALUE, 0);
    }

    /** The items do not have to lie on both sides of 0. */
    private static void onlyOnOneSide() {
        DUE.sentence("over all items, and over nothing else: 0 is none of them");
        FileMaker right = FileMaker.pageWithoutFont(1, 1, 1000).raw(136, 5, 147, 6).dot();
        right.raw(136, 10, 147, 20).dot().raw(136, 256 - 3, 147, 256 - 3).dot();
        mosts("above 0", DUE.reads("above 0", right.endWithoutFont(0), 1), 15, 26, 5, 6);
        FileMaker left = FileMaker.pageWithoutFont(1, 1, 1000).raw(136, 256 - 5, 147, 256 - 6).dot();
        left.raw(136, 256 - 10, 147, 256 - 20).dot();
        mosts("below 0", DUE.reads("below 0", left.endWithoutFont(0), 1), -5, -6, -15, -26);
        FileMaker moved = FileMaker.pageWithoutFont(1, 1, 1000).raw(136, 5, 147, 6).dot().raw(136, 50, 147, 50);
        mosts("moves behind the item", DUE.reads("moved", moved.endWithoutFont(0), 1), 5, 6, 5, 6);
    }

    private static void unitsNotPixels() {
        DUE.sentence("the greatest H, not HH");
        FileMaker file = FileMaker.pageWithoutFont(3, 1, 1000).raw(136, 5, 147, 6).dot().raw(136, 5, 147, 6).dot();
        mosts("CONV 3", DUE.reads("CONV 3", file.endWithoutFont(0), 1), 10, 12, 5, 6);
    }

    private static void oneItem() {
        DUE.sentence("over all items: a single one");
        FileMaker file = FileMaker.pageWithoutFont(1, 1, 1000).raw(136, 5, 147, 256 - 6).dot();
        mosts("one item", DUE.reads("one item", file.endWithoutFont(0), 1), 5, -6, 5, -6);
    }

    private static void noItems() {
        DUE.sentence("0 when there are no items");
        FileMaker file = FileMaker.pageWithoutFont(1, 1, 1000).raw(136, 5, 147, 6).rule(129, 0, 9).rule(130, 9, -1);
        mosts("no items", DUE.reads("no items", file.endWithoutFont(0), 1), 0, 0, 0, 0);
        mosts("no pages", DUE.reads("no pages", FileMaker.withoutPages(), 0), 0, 0, 0, 0);
        PageReader x = threePages();
        x.cut(x.cut(0));
        FileMaker.withoutPages().into(x);
        mosts("ahead of the second read()", x, 30, 100, -20, -70);
        DUE.reads("no pages behind three", x, 0);
        mosts("no pages behind three", x, 0, 0, 0, 0);
    }

    private static void nothingWasRead() {
        DUE.sentence("Of what was read: nothing");
        mosts("a new object", new PageReader(), 0, 0, 0, 0);
        PageReader x = threePages();
        x.add(0, 1);
        mosts("ahead of the second read()", x, 30, 100, -20, -70);
        DUE.refuses("read()", x::read, UnsupportedOperationException.class);
        mosts("a refused file behind three pages", x, 0, 0, 0, 0);
    }

    private static void otherWhats() {
        DUE.sentence("0 when .. what is not 0 .. 3");
        FileMaker file = FileMaker.pageWithoutFont(1, 1, 1000).raw(136, 5, 147, 6).dot().raw(136, 5, 147, 6).dot();
        PageReader x = DUE.reads("two items", file.endWithoutFont(0), 1);
        mosts("two items", x, 10, 12, 5, 6);
        for (int i : new int[] {-1, -2, 4, 5, 6, 7, 8, 256, Integer.MIN_VALUE, Integer.MAX_VALUE}) {
            DUE.is("most(" + i + ")", x.most(i), 0);
        }
    }
}
