/** Promise 7: page. */
public final class PageTest {
    private static final Due DUE = new Due("PageTest");
    private static final int LEAST = Integer.MIN_VALUE;
    private static final int GREATEST = Integer.MAX_VALUE;

    public static void main(String[] args) {
        partsOfPages();
        noSuchPage();
        noSuchPart();
        nothingWasRead();
        DUE.end();
    }

    private static PageReader fourPages() {
        FileMaker file = FileMaker.pageWithFont(1, 1).raw(65, 66).end().raw(131).begin(-1).end();
        file.begin(-32768).raw(158, 128, 3).rule(130, 2, 2).rule(129, 0, 2).raw(9).end().begin(32767).end();
        return DUE.reads("four pages", file.last(0).define(0, 7, 64).close(), 4);
    }

    private static void partsOfPages() {
        DUE.sentence("Of page p (from 0): what = 0 its number, 1 how many items it has, 2 the address of its BEGIN");
        PageReader x = fourPages();
        int[][] pages = {{1, 2, 14}, {-1, 0, 24}, {-32768, 3, 30}, {32767, 0, 50}};
        for (int p = 0; p < 4; p++) {
            for (int what = 0; what < 3; what++) {
                DUE.is("page(" + p + ", " + what + ")", x.page(p, what), pages[p][what]);
            }
        }
    }

    private static void noSuchPage() {
        DUE.sentence("NoSuchElementException: there is none");
        PageReader x = fourPages();
        for (int what = 0; what < 3; what++) {
            int part = what;
            for (int p : new int[] {-1, -4, 4, 5, 11, 12, LEAST, GREATEST}) {
                DUE.hasNone("page(" + p + ", " + part + ")", () -> x.page(p, part));
            }
        }
        DUE.is("page(3, 0)", x.page(3, 0), 32767);
        PageReader one = DUE.reads("a page", FileMaker.pageWithoutFont(1, 1, 1).endWithoutFont(0), 1);
        DUE.is("page(0, 0)", one.page(0, 0), 1);
        DUE.hasNone("page(1, 0) of one", () -> one.page(1, 0));
        PageReader none = DUE.reads("no pages", FileMaker.withoutPages(), 0);
        DUE.hasNone("page(0, 0) of none", () -> none.page(0, 0));
        DUE.hasNone("page(-1, 0) of none", () -> none.page(-1, 0));
    }

    private static void noSuchPart() {
        DUE.sentence("NoSuchElementException: what is not 0 .. 2");
        PageReader x = fourPages();
        for (int p = 0; p < 4; p++) {
            int page = p;
            for (int what : new int[] {-1, 3, 4, 8, LEAST, GREATEST}) {
                DUE.hasNone("page(" + page + ", " + what + ")", () -> x.page(page, what));
            }
        }
        DUE.hasNone("page(4, 3)", () -> x.page(4, 3));
    }

    private static void nothingWasRead() {
        DUE.sentence("NoSuchElementException: there is none, since nothing was read");
        PageReader x = FileMaker.pageWithoutFont(1, 1, 1).endWithoutFont(0).reader();
        DUE.hasNone("page(0, 0) ahead of read()", () -> x.page(0, 0));
        DUE.reads("a page", x, 1);
        DUE.is("page(0, 0)", x.page(0, 0), 1);
        x.cut(1);
        DUE.is("page(0, 0) behind cut", x.page(0, 0), 1);
        DUE.refuses("read()", x::read, UnsupportedOperationException.class);
        for (int what = 0; what < 3; what++) {
            int part = what;
            DUE.hasNone("page(0, " + part + ") behind a refused file", () -> x.page(0, part));
        }
    }
}
