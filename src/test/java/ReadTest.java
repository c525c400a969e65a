/** Promise 5: read, and the limits of what it accepts. */
public final class ReadTest {
    public static void main(String[] args) {
        Due due = new Due("ReadTest");
        howManyPages(due);
        notRight(due);
        nothingWasReadThen(due);
        fileStays(due);
        due.sentence("Reads the file");
        due.reads("no pages", FileMaker.withoutPages(), 0);
        due.reads("an empty page", FileMaker.pageWithoutFont(1, 1, 1).endWithoutFont(0), 1);
        nothingAndDefineAnywhere(due);
        tails(due);
        pages(due);
        items(due);
        stack(due);
        numbers(due);
        readAgain(due);
        refusedReadsLeaveNothing(due);
        due.end();
    }

    private static void howManyPages(Due due) {
        due.sentence("Reads the file: how many pages it has");
        for (int pages = 0; pages <= 12; pages++) {
            FileMaker file = new FileMaker().start(1, 1, 1000);
            for (int p = 0; p < pages; p++) {
                file.begin(7).end();
            }
            PageReader x = due.reads(pages + " pages", file.last(0).close(), pages);
            for (int p = 0; p < pages; p++) {
                due.is("address of page " + p, x.page(p, 2), 8 + 6 * p);
            }
        }
    }

    private static void notRight(Due due) {
        due.sentence("UnsupportedOperationException: it is not right");
        PageReader x = new PageReader();
        due.refuses("read() of an empty file", x::read, UnsupportedOperationException.class);
        due.refuses("read() again", x::read, UnsupportedOperationException.class);
        FileMaker.withoutPages().into(x);
        due.reads("a right file", x, 0);
        x.add(223, 1);
        due.refuses("read() with a byte more", x::read, UnsupportedOperationException.class);
        x.cut(2);
        due.refuses("read() with a byte less", x::read, UnsupportedOperationException.class);
        x.add(223, 1);
        due.reads("a right file again", x, 0);
    }

    /** Wherever it is found wrong, nothing of it and nothing of the file before is left. */
    private static void nothingWasReadThen(Due due) {
        due.sentence("nothing was read then");
        FileMaker file = FileMaker.pageWithFont(3, 2).raw(136, 4, 65, 131).end().begin(2).raw(158, 66).end();
        file.last(0).raw(131).define(0, 7, 64).close();
        int[] addresses = {0, 8, 14, 19, 20, 23, 24, 25, 30, 32, 33, 45, 46, 52};
        for (int address : addresses) {
            PageReader x = due.reads("a right file", file, 2);
            due.is("most(0)", x.most(0), 4);
            x.cut(x.cut(0));
            file.changed(address, 255).into(x);
            due.refusesAt("wrong at " + address, x, address);
            due.hasNone("page(1, 0)", () -> x.page(1, 0));
            due.hasNone("item(1, 0, 0)", () -> x.item(1, 0, 0));
        }
    }

    private static void fileStays(Due due) {
        due.sentence("Reads the file: it stays as it is");
        PageReader x = FileMaker.withoutPages().reader();
        due.reads("a right file", x, 0);
        due.is("cut(0)", x.cut(0), 28);
        x.add(0, 1);
        due.refusesAt("a wrong file", x, 20);
        due.is("cut(0)", x.cut(0), 29);
        due.refusesAt("the same file", x, 20);
        due.is("cut(1)", x.cut(1), 28);
        due.reads("a right file", x, 0);
    }

    private static void nothingAndDefineAnywhere(Due due) {
        FileMaker file = new FileMaker().start(1, 2, 3).raw(131).define(7, 65535, 65535).raw(131).begin(0).raw(131);
        file.define(1, 0, 0).raw(159, 3, 128, 127, 131).end().raw(131, 131).define(2, 1, 1).begin(0).raw(160, 5).end();
        file.raw(131).define(3, 2, 2).raw(131).last(0).raw(131).define(3, 2, 2).define(1, 0, 0).raw(131);
        file.define(7, 65535, 65535).define(2, 1, 1).raw(131).close();
        due.reads("NOTHING and DEFINE", file, 2);
    }

    /** From four bytes 223 on, whatever length ends at a multiple of 4. */
    private static void tails(Due due) {
        for (int nothings = 0; nothings < 4; nothings++) {
            FileMaker file = new FileMaker().start(1, 1, 1).times(nothings, 131).last(0);
            int close = file.here();
            file.raw(169).number(close - 12, 2).raw(2);
            for (int n = 0; n <= 12; n++) {
                String what = n + " bytes behind CLOSE at " + close;
                if (n >= 4 && file.here() % 4 == 0) {
                    due.reads(what, file, 0);
                } else {
                    due.refusesAt(what, file, close);
                }
                file.raw(223);
            }
        }
    }

    private static void pages(Due due) {
        FileMaker file = new FileMaker().start(1, 1, 1000);
        for (int i = 0; i < 12; i++) {
            file.begin(i).end();
        }
        FileMaker more = file.firstBytes(file.here());
        due.reads("12 pages", file.last(0).close(), 12);
        int thirteenth = more.here();
        due.refusesAt("13 pages", more.raw(132, 0, 0).number(thirteenth - 6, 2).end(), thirteenth);
    }

    private static void items(Due due) {
        FileMaker file = FileMaker.pageWithFont(1, 1).times(100, 65).end().begin(2).raw(158).times(99, 128, 9);
        int at = file.here();
        FileMaker withRule = file.firstBytes(at).rule(129, 1, 1);
        FileMaker withNoItem = file.firstBytes(at).raw(9).rule(129, 0, 1).rule(130, 1, -1).raw(131);
        due.reads("200 items", file.raw(65).endWithFont(0), 2);
        due.refusesAt("a 201st item, SET", withRule.firstBytes(withRule.here()).raw(65), at + 5);
        due.refusesAt("a 201st item, PUT", withRule.firstBytes(withRule.here()).raw(128, 65), at + 5);
        due.refusesAt("a 201st item, a rule", withRule.firstBytes(withRule.here()).rule(130, 1, 1), at + 5);
        due.refusesAt("rules that are no items", withNoItem, withNoItem.here());
    }

    private static void stack(Due due) {
        FileMaker file = FileMaker.pageWithoutFont(1, 1, 1).times(20, 134).times(20, 135).raw(134, 135);
        due.reads("20 places", file.endWithoutFont(20), 1);
        FileMaker more = FileMaker.pageWithoutFont(1, 1, 1).times(20, 134);
        due.refusesAt("21 places", more.raw(134), more.here() - 1);
        FileMaker pages = FileMaker.pageWithoutFont(1, 1, 1).raw(134, 134, 135, 134, 135, 135).end();
        pages.begin(2).raw(134, 135).end().last(2).close();
        due.reads("the depth of the deepest page", pages, 2);
    }

    private static void numbers(Due due) {
        due.reads("the greatest units", FileMaker.pageWithoutFont(65535, 65535, 65535).endWithoutFont(0), 1);
        due.reads("the least units", FileMaker.pageWithoutFont(1, 1, 1).endWithoutFont(0), 1);
        FileMaker moves = FileMaker.pageWithoutFont(1, 1, 1000);
        for (int op = 136; op <= 157; op++) {
            int bytes = op == 139 || op == 143 || op == 150 || op == 154 ? 0 : op < 139 ? op - 135
                : op < 147 ? (op - 139) % 4 : op < 150 ? op - 146 : (op - 150) % 4;
            moves.raw(op).times(bytes, 200);
        }
        due.reads("moves of each length", moves.endWithoutFont(0), 1);
    }

    private static void readAgain(Due due) {
        FileMaker file = FileMaker.pageWithFont(3, 2).raw(134, 65, 136, 9, 66, 135).endWithFont(1);
        PageReader x = file.reader();
        for (int i = 0; i < 3; i++) {
            due.reads("again", x, 1);
            due.is("page(0, 1) again", x.page(0, 1), 2);
            due.stands("again", x, 0, 1, 9, 0, 14, 0);
        }
        x.cut(x.cut(0));
        due.refusesAt("nothing behind a right file", x, 0);
        FileMaker.withoutPages().into(x);
        due.reads("another file", x, 0);
        due.isExactly("conv() of another file", x.conv(), 1.0);
        due.hasNone("page(0, 0) of another file", () -> x.page(0, 0));
        due.is("most(0) of another file", x.most(0), 0);
    }

    /** Fonts, places on the stack, pages and pointers of a refused file do not count for the next one. */
    private static void refusedReadsLeaveNothing(Due due) {
        FileMaker wrong = new FileMaker().start(3, 2, 1000).define(0, 7, 64).define(5, 1, 1).begin(1).raw(65).end();
        FileMaker deep = FileMaker.pageWithFont(3, 2).define(6, 1, 1).raw(65, 140, 9, 151, 9, 134, 134, 134, 255);
        FileMaker behind = new FileMaker().start(3, 2, 1000).define(0, 7, 64).last(0).define(0, 7, 64).raw(0);
        FileMaker right = FileMaker.pageWithFont(1, 1).rule(130, 1, 1).raw(139, 150, 134, 65, 135).endWithFont(1);
        PageReader x = new PageReader();
        refused(due, x, wrong, 25);
        accepted(due, x, right);
        refused(due, x, deep, 34);
        accepted(due, x, right);
        refused(due, x, behind, 32);
        accepted(due, x, right);
    }

    private static void refused(Due due, PageReader x, FileMaker file, int address) {
        x.cut(x.cut(0));
        due.refusesAt("a wrong file", file.into(x), address);
    }

    private static void accepted(Due due, PageReader x, FileMaker file) {
        x.cut(x.cut(0));
        due.reads("a right file behind a wrong one", file.into(x), 1);
        due.is("its items", x.page(0, 1), 2);
        due.stands("its first item", x, 0, 0, 0, 0, 0, 0);
        due.stands("its second item", x, 0, 1, 0, 0, 0, 0);
    }
}
