/** Promise 10: most. */
public final class MostTest {
    public static void main(String[] args) {
        Due due = new Due("MostTest");
        overAllPages(due);
        onlyOnOneSide(due);
        movesWithoutItemsDoNotCount(due);
        due.end();
    }

    private static void mosts(Due due, String what, PageReader x, int... want) {
        for (int i = 0; i < 4; i++) {
            due.is(what + ": most(" + i + ")", x.most(i), want[i]);
        }
        for (int i : new int[] {-1, 4, 5, Integer.MIN_VALUE, Integer.MAX_VALUE}) {
            due.is(what + ": most(" + i + ")", x.most(i), 0);
        }
    }

    private static void overAllPages(Due due) {
        FileMaker file = FileMaker.pageWithFont(3, 2).raw(136, 256 - 20, 65, 136, 50, 147, 9, 65).end();
        file.begin(2).raw(136, 5, 147, 100).rule(130, 1, 1).end();
        file.begin(3).raw(147, 256 - 70).rule(130, 1, 1).raw(136, 7).end().last(0).define(0, 7, 64).close();
        mosts(due, "three pages", due.reads("three pages", file, 3), 30, 100, -20, -70);
    }

    /** The items do not have to lie on both sides of 0. */
    private static void onlyOnOneSide(Due due) {
        FileMaker right = FileMaker.pageWithoutFont(1, 1, 1000).raw(136, 5, 147, 6).rule(130, 1, 1);
        right.raw(136, 10, 147, 20).rule(130, 1, 1).raw(136, 256 - 3, 147, 256 - 3).rule(130, 1, 1);
        mosts(due, "above 0", due.reads("above 0", right.endWithoutFont(0), 1), 15, 26, 5, 6);
        FileMaker left = FileMaker.pageWithoutFont(1, 1, 1000).raw(136, 256 - 5, 147, 256 - 6).rule(130, 1, 1);
        left.raw(136, 256 - 10, 147, 256 - 20).rule(130, 1, 1);
        mosts(due, "below 0", due.reads("below 0", left.endWithoutFont(0), 1), -5, -6, -15, -26);
    }

    private static void movesWithoutItemsDoNotCount(Due due) {
        FileMaker file = FileMaker.pageWithoutFont(1, 1, 1000).raw(136, 5, 147, 6).rule(129, 0, 9);
        mosts(due, "no items", due.reads("no items", file.endWithoutFont(0), 1), 0, 0, 0, 0);
        mosts(due, "no pages", due.reads("no pages", FileMaker.withoutPages(), 0), 0, 0, 0, 0);
    }
}
