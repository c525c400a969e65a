/** Terms: at most 12 pages and 200 ITEMS. */
public final class LimitTest {
    private static final Due DUE = new Due("LimitTest");

    public static void main(String[] args) {
        pages();
        itemsOfOnePage();
        itemsOfSomePages();
        itemsThatAreRules();
        allItemsAreKept();
        DUE.end();
    }

    private static FileMaker pagesOf(int count) {
        FileMaker file = new FileMaker().start(1, 1, 1000);
        for (int p = 0; p < count; p++) {
            file.begin(100 + p).dot().end();
        }
        return file;
    }

    private static void pages() {
        DUE.sentence("There are at most 12 pages");
        PageReader x = DUE.reads("12 pages", pagesOf(12).last(0).close(), 12);
        DUE.is("number of page 11", x.page(11, 0), 111);
        DUE.is("items of page 11", x.page(11, 1), 1);
        DUE.is("address of page 11", x.page(11, 2), 8 + 11 * 11);
        DUE.hasNone("page(12, 0)", () -> x.page(12, 0));
        DUE.refusesAt("13 pages", pagesOf(13).last(0).close(), 8 + 12 * 11);
        DUE.refusesAt("14 pages", pagesOf(14).last(0).close(), 8 + 12 * 11);
        DUE.reads("12 pages, NOTHING behind them", pagesOf(12).raw(131).last(0).close(), 12);
    }

    private static void itemsOfOnePage() {
        DUE.sentence("There are at most .. 200 ITEMS: of one page");
        FileMaker page = FileMaker.pageWithFont(1, 1).times(199, 65);
        DUE.is("items", DUE.reads("SET", page.copy().raw(65).endWithFont(0), 1).page(0, 1), 200);
        DUE.is("items", DUE.reads("PUT", page.copy().raw(128, 65).endWithFont(0), 1).page(0, 1), 200);
        DUE.is("items", DUE.reads("a rule", page.copy().dot().endWithFont(0), 1).page(0, 1), 200);
        FileMaker full = page.copy().raw(65);
        DUE.refusesAt("201 items, SET", full.copy().raw(65).endWithFont(0), 220);
        DUE.refusesAt("201 items, PUT", full.copy().raw(128, 65).endWithFont(0), 220);
        DUE.refusesAt("201 items, SET RULE", full.copy().rule(129, 1, 1).endWithFont(0), 220);
        DUE.refusesAt("201 items, PUT RULE", full.copy().rule(130, 1, 1).endWithFont(0), 220);
        DUE.reads("200 items and moves", full.copy().raw(131, 134, 136, 1, 135).endWithFont(1), 1);
    }

    private static void itemsOfSomePages() {
        DUE.sentence("There are at most .. 200 ITEMS: of all pages");
        FileMaker file = FileMaker.pageWithFont(1, 1).times(120, 65).end().begin(2).raw(158).times(80, 128, 66).end();
        FileMaker next = file.copy().begin(3).raw(158);
        int at = next.here();
        DUE.reads("120 and 80", file.copy().last(0).define(0, 7, 64).close(), 2);
        DUE.reads("120, 80 and 0", next.copy().endWithFont(0), 3);
        DUE.refusesAt("120, 80 and 1", next.copy().raw(65).endWithFont(0), at);
    }

    private static void itemsThatAreRules() {
        DUE.sentence("if both numbers are above 0, an ITEM: other rules do not count");
        FileMaker full = FileMaker.pageWithFont(1, 1).times(200, 65);
        int[][] none = {{0, 1}, {1, 0}, {0, 0}, {-1, 1}, {1, -1}, {-1, -1}, {-32768, 32767}, {32767, -32768}};
        for (int[] n : none) {
            FileMaker file = full.copy().rule(129, n[0], n[1]).rule(130, n[0], n[1]).endWithFont(0);
            DUE.is("items", DUE.reads("rule " + n[0] + ", " + n[1], file, 1).page(0, 1), 200);
        }
        DUE.refusesAt("rule 1, 1", full.copy().rule(129, 1, 1).endWithFont(0), 220);
    }

    private static void allItemsAreKept() {
        DUE.sentence("There are at most .. 200 ITEMS: each is told");
        FileMaker file = FileMaker.pageWithFont(1, 1);
        for (int k = 0; k < 200; k++) {
            file.raw(k % 128);
        }
        PageReader x = file.endWithFont(0).reader();
        for (int c = 0; c < 128; c++) {
            x.width(0, c, 1);
        }
        DUE.reads("200 items", x, 1);
        for (int k = 0; k < 200; k += 1) {
            DUE.is("item(0, " + k + ", 0)", x.item(0, k, 0), k % 128);
        }
        DUE.stands("item 199", x, 0, 199, 199, 0, 199, 0);
        DUE.hasNone("item(0, 200, 0)", () -> x.item(0, 200, 0));
        DUE.is("most(0)", x.most(0), 199);
    }
}
