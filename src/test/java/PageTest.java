/** Promise 7: page. */
public final class PageTest {
    public static void main(String[] args) {
        Due due = new Due("PageTest");
        FileMaker file = FileMaker.pageWithFont(1, 1).raw(65, 66).end().raw(131).begin(-1).end();
        file.begin(-32768).raw(158, 128, 3).rule(130, 2, 2).rule(129, 0, 2).raw(9).end().begin(32767).end();
        PageReader x = due.reads("four pages", file.last(0).define(0, 7, 64).close(), 4);
        int[][] pages = {{1, 2, 14}, {-1, 0, 24}, {-32768, 3, 30}, {32767, 0, 50}};
        for (int p = 0; p < 4; p++) {
            for (int what = 0; what < 3; what++) {
                due.is("page(" + p + ", " + what + ")", x.page(p, what), pages[p][what]);
            }
            due.hasNone("what is -1", () -> x.page(0, -1));
            due.hasNone("what is 3", () -> x.page(0, 3));
            due.hasNone("what is the least int", () -> x.page(0, Integer.MIN_VALUE));
        }
        for (int p : new int[] {-1, 4, 11, 12, Integer.MIN_VALUE, Integer.MAX_VALUE}) {
            due.hasNone("page(" + p + ", 0)", () -> x.page(p, 0));
        }
        due.end();
    }
}
