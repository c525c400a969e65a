/** Terms: when A FILE IS RIGHT, but for stack, fonts and limits, which have tests of their own. */
public final class RightFileTest {
    private static final Due DUE = new Due("RightFileTest");

    public static void main(String[] args) {
        startComesFirst();
        unitsOfStart();
        nothingAndDefine();
        thenLast();
        thenNothingAndDefine();
        thenClose();
        fourBytesOrMore();
        noOtherBytes();
        multipleOf4();
        pageIsBeginCommandsEnd();
        pointerOfFirstBegin();
        pointerOfBegin();
        pointerOfLast();
        pointerOfClose();
        unitsOfLast();
        depthOfLast();
        pagesOfLast();
        DUE.end();
    }

    private static void startComesFirst() {
        DUE.sentence("A FILE IS RIGHT when it is: START");
        DUE.refusesAt("an empty file", new FileMaker(), 0);
        DUE.refusesAt("NOTHING first", new FileMaker().raw(131).start(1, 1, 1).last(0).close(), 0);
        DUE.refusesAt("DEFINE first", new FileMaker().define(0, 1, 1).start(1, 1, 1).last(0).define(0, 1, 1).close(), 0);
        DUE.refusesAt("BEGIN first", new FileMaker().begin(1).end().start(1, 1, 1).last(0).close(), 0);
        DUE.refusesAt("LAST first", new FileMaker().last(0).close(), 0);
        DUE.refusesAt("CLOSE first", new FileMaker().close(), 0);
        DUE.refusesAt("START twice", new FileMaker().start(1, 1, 1).start(1, 1, 1).last(0).close(), 8);
    }

    private static void unitsOfStart() {
        DUE.sentence("START, whose NUM, DEN and MAG are 1 or more");
        int[][] units = {{1, 65535, 65535}, {65535, 1, 65535}, {65535, 65535, 1}, {1, 1, 1}};
        for (int[] u : units) {
            DUE.reads("1 is enough", new FileMaker().start(u[0], u[1], u[2]).last(0).close(), 0);
        }
        DUE.refusesAt("NUM 0", new FileMaker().start(0, 1, 1).last(0).close(), 0);
        DUE.refusesAt("DEN 0", new FileMaker().start(1, 0, 1).last(0).close(), 0);
        DUE.refusesAt("MAG 0", new FileMaker().start(1, 1, 0).last(0).close(), 0);
        DUE.refusesAt("all 0", new FileMaker().start(0, 0, 0).last(0).close(), 0);
    }

    private static void nothingAndDefine() {
        DUE.sentence("then pages, with NOTHING and DEFINE before, between and behind them");
        DUE.reads("no pages", FileMaker.withoutPages(), 0);
        DUE.reads("two pages", new FileMaker().start(1, 1, 1).begin(1).end().begin(1).end().last(0).close(), 2);
        FileMaker file = new FileMaker().start(1, 1, 1).raw(131).define(0, 1, 1).raw(131).begin(1).end();
        file.raw(131, 131).define(1, 1, 1).begin(2).end().define(2, 1, 1).raw(131).last(0);
        DUE.reads("both", file.define(0, 1, 1).define(1, 1, 1).define(2, 1, 1).close(), 2);
        FileMaker nothings = new FileMaker().start(1, 1, 1).times(500, 131).last(0).close();
        DUE.reads("500 times NOTHING", nothings, 0);
    }

    private static void thenLast() {
        DUE.sentence("then LAST");
        FileMaker page = new FileMaker().start(1, 1, 1).begin(1).end();
        DUE.refusesAt("CLOSE without LAST", page.copy().raw(169, 0, 8, 2, 223, 223, 223, 223), 14);
        DUE.refusesAt("CLOSE without pages or LAST", new FileMaker().start(1, 1, 1).close(), 8);
        DUE.refusesAt("nothing behind the page", page.copy(), 14);
        DUE.refusesAt("LAST in a page", FileMaker.pageWithoutFont(1, 1, 1).last(0).close(), 13);
    }

    private static void thenNothingAndDefine() {
        DUE.sentence("then NOTHING and DEFINE");
        FileMaker file = new FileMaker().start(1, 1, 1).define(0, 1, 1).last(0);
        int at = file.here();
        DUE.reads("both", file.copy().raw(131).define(0, 1, 1).raw(131, 131).close(), 0);
        for (int op = 0; op < 256; op++) {
            if (op != 131 && op != 166 && op != 169) {
                DUE.refusesAt(op + " behind LAST", file.copy().raw(op).raw(new int[12]), at);
            }
        }
        FileMaker page = file.copy().define(0, 1, 1).raw(132, 0, 0, 255, 255, 133).close();
        DUE.refusesAt("a page behind LAST", page, at + 6);
        DUE.refusesAt("LAST twice", new FileMaker().start(1, 1, 1).last(0).last(0).close(), 20);
    }

    private static void thenClose() {
        DUE.sentence("then CLOSE");
        FileMaker file = new FileMaker().start(1, 1, 1).last(0);
        DUE.refusesAt("nothing behind LAST", file.copy(), 20);
        DUE.refusesAt("NOTHING behind LAST", file.copy().raw(131, 131), 22);
        DUE.refusesAt("223 without CLOSE", file.copy().raw(223, 223, 223, 223), 20);
        DUE.refusesAt("CLOSE ahead of LAST", new FileMaker().start(1, 1, 1).raw(169, 0, 12, 2).last(0).close(), 8);
    }

    /** CLOSE at each address modulo 4, so that each number of bytes 223 meets the multiple of 4 once. */
    private static void fourBytesOrMore() {
        DUE.sentence("behind it at least four bytes 223");
        for (int nothings = 0; nothings < 4; nothings++) {
            FileMaker file = new FileMaker().start(1, 1, 1).times(nothings, 131).last(0);
            int close = file.here();
            file.raw(169).number(close - 12, 2).raw(2);
            int few = (4 - nothings) % 4;
            DUE.refusesAt(few + " bytes to a multiple of 4", file.copy().times(few, 223), close);
            DUE.reads(few + 4 + " bytes to a multiple of 4", file.copy().times(few + 4, 223), 0);
            DUE.reads(few + 8 + " bytes to a multiple of 4", file.copy().times(few + 8, 223), 0);
        }
        FileMaker full = new FileMaker().start(1, 1, 1).last(0).close().times(572, 223);
        DUE.reads("223 until the file is full", full, 0);
    }

    private static void noOtherBytes() {
        DUE.sentence("and no others");
        FileMaker file = FileMaker.withoutPages().times(8, 223);
        DUE.reads("12 bytes 223", file, 0);
        for (int other : new int[] {0, 131, 169, 222, 224, 255}) {
            for (int address = 24; address < 36; address++) {
                DUE.refusesAt(other + " at " + address, file.changed(address, other), 20);
            }
        }
    }

    private static void multipleOf4() {
        DUE.sentence("until their addresses end with the file at a multiple of 4");
        for (int nothings = 0; nothings < 4; nothings++) {
            FileMaker file = new FileMaker().start(1, 1, 1).times(nothings, 131).last(0).close();
            int close = 20 + nothings;
            DUE.reads("a multiple of 4", file, 0);
            for (int more = 1; more < 4; more++) {
                DUE.refusesAt(more + " behind a multiple of 4", file.copy().times(more, 223), close);
            }
            DUE.reads("the next multiple of 4", file.copy().times(4, 223), 0);
        }
    }

    private static void pageIsBeginCommandsEnd() {
        DUE.sentence("A page is BEGIN, commands that are not 132, 133, 167, 168, 169, and END");
        FileMaker page = FileMaker.pageWithFont(1, 1);
        DUE.reads("BEGIN and END", FileMaker.pageWithoutFont(1, 1, 1).endWithoutFont(0), 1);
        int[][] wrong = {{132, 0, 2, 0, 14}, {167, 2, 0, 1, 0, 1, 3, 232}, {169, 0, 0, 2},
            {168, 0, 14, 0, 1, 0, 1, 3, 232, 0, 0, 1}};
        for (int[] command : wrong) {
            DUE.refusesAt(command[0] + " in a page", page.copy().raw(command).endWithFont(0), 20);
        }
        DUE.refusesAt("END twice", page.copy().end().endWithFont(0), 21);
        DUE.refusesAt("END ahead of BEGIN", new FileMaker().start(1, 1, 1).end().begin(1).endWithoutFont(0), 8);
        DUE.refusesAt("no END", page.copy(), 20);
        FileMaker all = page.copy();
        for (int op = 0; op < 166; op++) {
            if (op < 128 || op == 131 || op == 139 || op == 143 || op == 150 || op == 154) {
                all.raw(op);
            }
        }
        all.raw(128, 1).rule(129, 1, 1).rule(130, 1, 1).raw(134, 136, 1, 147, 1, 135).define(1, 1, 1).raw(159);
        all.end().last(1).define(0, 7, 64).define(1, 1, 1).close();
        DUE.is("items", DUE.reads("the other commands", all, 1).page(0, 1), 131);
        for (int op = 0; op < 256; op++) {
            boolean outside = op == 131 || op == 132 || op == 166 || op == 168;
            if (!outside) {
                int[] whole = new int[12];
                whole[0] = op;
                DUE.refusesAt(op + " between pages", page.copy().end().raw(whole), 21);
            }
        }
    }

    private static void pointer(String what, FileMaker file, int address, int right, int wrongAt) {
        for (int other : new int[] {right - 1, right + 1, right ^ 256, 0, 65535, 65534}) {
            if ((other & 65535) != right) {
                DUE.refusesAt(what + " to " + other, file.changed(address, other >> 8 & 255, other & 255), wrongAt);
            }
        }
    }

    /** BEGIN at 8, 15 and 22, LAST at 28, CLOSE at 40. */
    private static FileMaker threePages() {
        FileMaker file = new FileMaker().start(1, 1, 1).begin(1).end().raw(131).begin(2).end().raw(131).begin(3).end();
        return file.last(0).close();
    }

    private static void pointerOfFirstBegin() {
        DUE.sentence("The pointer of a BEGIN is .. (65535 for the first one)");
        DUE.reads("three pages", threePages(), 3);
        pointer("the first BEGIN", threePages(), 11, 65535, 8);
        DUE.refusesAt("the first BEGIN to itself", threePages().changed(11, 0, 8), 8);
    }

    private static void pointerOfBegin() {
        DUE.sentence("The pointer of a BEGIN is the address of the BEGIN before it");
        pointer("the second BEGIN", threePages(), 18, 8, 15);
        DUE.refusesAt("the second BEGIN to itself", threePages().changed(18, 0, 15), 15);
        pointer("the third BEGIN", threePages(), 25, 15, 22);
        DUE.refusesAt("the third BEGIN to the first", threePages().changed(25, 0, 8), 22);
    }

    private static void pointerOfLast() {
        DUE.sentence("that of LAST the address of the last BEGIN (65535 without pages)");
        pointer("LAST", threePages(), 29, 22, 28);
        DUE.refusesAt("LAST to the BEGIN before", threePages().changed(29, 0, 15), 28);
        DUE.refusesAt("LAST to itself", threePages().changed(29, 0, 28), 28);
        FileMaker none = FileMaker.withoutPages();
        DUE.reads("without pages", none, 0);
        pointer("LAST without pages", none, 9, 65535, 8);
        DUE.refusesAt("LAST without pages to itself", none.changed(9, 0, 8), 8);
    }

    private static void pointerOfClose() {
        DUE.sentence("that of CLOSE the address of LAST");
        pointer("CLOSE", threePages(), 41, 28, 40);
        DUE.refusesAt("CLOSE to the last BEGIN", threePages().changed(41, 0, 22), 40);
        DUE.refusesAt("CLOSE to itself", threePages().changed(41, 0, 40), 40);
        pointer("CLOSE without pages", FileMaker.withoutPages(), 21, 8, 20);
    }

    private static void unitsOfLast() {
        DUE.sentence("LAST has the NUM, DEN and MAG of START");
        FileMaker file = new FileMaker().start(258, 515, 772).last(0).close();
        DUE.reads("the same", file, 0);
        int[] right = {258, 515, 772};
        for (int i = 0; i < 3; i++) {
            for (int other : new int[] {right[i] - 1, right[i] + 1, right[i] - 256, right[i] + 256, 0}) {
                DUE.refusesAt("unit " + i + " as " + other, file.changed(11 + 2 * i, other >> 8, other & 255), 8);
            }
        }
        DUE.refusesAt("NUM and DEN exchanged", file.changed(11, 2, 3, 1, 2), 8);
        // The same CONV is not enough.
        FileMaker doubled = new FileMaker().start(1, 1, 1000).last(0).close();
        DUE.refusesAt("2 / 2 for 1 / 1", doubled.changed(11, 0, 2, 0, 2), 8);
    }

    private static void depth(String what, FileMaker pages, int number, int depth) {
        DUE.reads(what + ", DEPTH " + depth, pages.copy().last(depth).close(), number);
        int at = pages.here();
        for (int other : new int[] {depth - 1, depth + 1, 255}) {
            if (other >= 0) {
                DUE.refusesAt(what + ", DEPTH " + other, pages.copy().last(other).close(), at);
            }
        }
    }

    private static FileMaker page(FileMaker file, int depth) {
        return file.begin(1).times(depth, 134).times(depth, 135).end();
    }

    private static void depthOfLast() {
        DUE.sentence("as DEPTH the most places that were on the stack at a time in any page");
        depth("no pages", new FileMaker().start(1, 1, 1), 0, 0);
        depth("no PUSH", page(new FileMaker().start(1, 1, 1), 0), 1, 0);
        depth("one PUSH", page(new FileMaker().start(1, 1, 1), 1), 1, 1);
        depth("20 places", page(new FileMaker().start(1, 1, 1), 20), 1, 20);
        depth("the first page", page(page(new FileMaker().start(1, 1, 1), 3), 1), 2, 3);
        depth("the last page", page(page(new FileMaker().start(1, 1, 1), 1), 3), 2, 3);
        depth("the page between", page(page(page(new FileMaker().start(1, 1, 1), 1), 4), 2), 3, 4);
        FileMaker often = new FileMaker().start(1, 1, 1).begin(1).times(5, 134, 135).raw(134, 134, 135, 134, 135, 135);
        depth("many a PUSH", often.end(), 1, 2);
    }

    private static void pagesOfLast() {
        DUE.sentence("and the number of pages");
        for (int pages : new int[] {0, 1, 2, 12}) {
            FileMaker file = new FileMaker().start(1, 1, 1);
            for (int p = 0; p < pages; p++) {
                file.begin(p).end();
            }
            int at = file.here();
            file.last(0).close();
            DUE.reads(pages + " pages", file, pages);
            for (int other : new int[] {pages - 1, pages + 1, pages + 256}) {
                DUE.refusesAt(other + " for " + pages, file.changed(at + 10, other >> 8 & 255, other & 255), at);
            }
        }
    }
}
