/** Promise 6: wrong, with each way in which a file is not right. */
public final class WrongTest {
    private static final Due DUE = new Due("WrongTest");

    public static void main(String[] args) {
        firstWrongCommand();
        behindClose();
        missingCommand();
        noneOrRight();
        cannotStandThere();
        wrongNumber();
        notWhole();
        lookedForAtEnd();
        lookedForAtLast();
        lookedForAtClose();
        DUE.sentence("A command is wrong that cannot stand there, has a wrong number, or is not whole: more of them");
        starts();
        commandsThatCannotStandThere();
        pointers();
        fontsAheadOfLast();
        fontsBehindLast();
        lasts();
        closes();
        stack();
        characters();
        shortFiles();
        latestRead();
        DUE.end();
    }

    private static void firstWrongCommand() {
        DUE.sentence("The address of the command at which the latest read() found the file wrong");
        FileMaker file = FileMaker.pageWithFont(1, 1).raw(131, 131, 131).endWithFont(0);
        DUE.reads("right", file, 1);
        DUE.refusesAt("wrong at 22", file.changed(22, 255), 22);
        DUE.refusesAt("wrong at 20 and 22", file.changed(20, 255, 131, 255), 20);
        DUE.refusesAt("wrong at 20 and at CLOSE", file.changed(20, 135).changed(45, 3), 20);
        DUE.refusesAt("wrong at the last byte of a command", file.changed(18, 65), 14);
        PageReader x = file.changed(22, 255).reader();
        DUE.refusesAt("the first read()", x, 22);
        x.cut(x.cut(0));
        file.changed(21, 255).into(x);
        DUE.is("wrong() ahead of the second read()", x.wrong(), 22);
        DUE.refusesAt("the second read()", x, 21);
        x.cut(x.cut(0));
        DUE.refusesAt("the third read()", file.firstBytes(5).into(x), 0);
    }

    private static void behindClose() {
        DUE.sentence("(that of CLOSE also for what is behind it)");
        FileMaker file = new FileMaker().start(1, 1, 1000).raw(131, 131, 131).last(0);
        int close = file.here();
        file.raw(169).number(close - 12, 2).raw(2);
        DUE.refusesAt("nothing", file.copy(), close);
        DUE.refusesAt("one byte", file.copy().raw(223), close);
        DUE.refusesAt("four bytes", file.copy().times(4, 223), close);
        DUE.reads("five bytes", file.copy().times(5, 223), 0);
        DUE.refusesAt("six bytes", file.copy().times(6, 223), close);
        DUE.refusesAt("another byte", file.copy().times(4, 223).raw(222), close);
        DUE.refusesAt("a command", file.copy().times(4, 223).raw(131), close);
        DUE.refusesAt("a file", file.copy().times(5, 223).start(1, 1, 1000), close);
    }

    private static void missingCommand() {
        DUE.sentence("(.. the file's length when a command is missing)");
        FileMaker file = new FileMaker();
        DUE.refusesAt("START", file.copy(), 0);
        DUE.refusesAt("LAST", file.start(1, 1, 1000).copy(), 8);
        DUE.refusesAt("LAST, behind DEFINE", file.define(0, 1, 1).copy(), 14);
        DUE.refusesAt("END", file.begin(1).copy(), 19);
        DUE.refusesAt("END, behind FONT", file.raw(158).copy(), 20);
        DUE.refusesAt("POP and END", file.copy().raw(134), 21);
        DUE.refusesAt("LAST, behind a page", file.end().copy(), 21);
        DUE.refusesAt("CLOSE and DEFINE", file.last(0).copy(), 33);
        DUE.refusesAt("CLOSE", file.define(0, 1, 1).copy(), 39);
        DUE.refusesAt("CLOSE, behind NOTHING", file.raw(131).copy(), 40);
        DUE.refusesAt("all but START in 600 bytes", new FileMaker().start(1, 1, 1).nothingsUpTo(600), 600);
    }

    private static void noneOrRight() {
        DUE.sentence("-1 when it was right, or there was none");
        PageReader x = new PageReader();
        DUE.is("wrong() of a new object", x.wrong(), -1);
        x.add(255, 1);
        DUE.is("wrong() of a file that was not read", x.wrong(), -1);
        x.cut(1);
        x.width(0, 0, 1);
        DUE.refuses("page(0, 0)", () -> x.page(0, 0), java.util.NoSuchElementException.class);
        DUE.is("wrong() behind other calls", x.wrong(), -1);
        DUE.refusesAt("an empty file", x, 0);
        FileMaker.withoutPages().into(x);
        DUE.is("wrong() ahead of the next read()", x.wrong(), 0);
        DUE.reads("right", x, 0);
        DUE.is("wrong() twice", x.wrong(), -1);
        x.cut(28);
        DUE.is("wrong() behind cut", x.wrong(), -1);
    }

    private static void cannotStandThere() {
        DUE.sentence("A command is wrong that cannot stand there");
        FileMaker page = FileMaker.pageWithFont(1, 1);
        DUE.refusesAt("END outside a page", page.copy().end().endWithFont(0), 21);
        DUE.refusesAt("SET outside a page", new FileMaker().start(1, 1, 1).raw(65).last(0).close(), 8);
        DUE.refusesAt("POP outside a page", new FileMaker().start(1, 1, 1).raw(134, 135).last(0).close(), 8);
        DUE.refusesAt("FONT outside a page",
            new FileMaker().start(1, 1, 1).define(0, 1, 1).raw(158).last(0).define(0, 1, 1).close(), 14);
        DUE.refusesAt("PUSH behind LAST", new FileMaker().start(1, 1, 1).last(0).raw(134, 135).close(), 20);
        DUE.refusesAt("START in a page", page.copy().start(1, 1, 1000).endWithFont(0), 20);
        DUE.refusesAt("POP of nothing", page.copy().raw(135).endWithFont(0), 20);
    }

    private static void wrongNumber() {
        DUE.sentence("A command is wrong that .. has a wrong number");
        FileMaker page = FileMaker.pageWithFont(1, 1);
        DUE.refusesAt("PUT 128", page.copy().raw(128, 128).endWithFont(0), 20);
        DUE.refusesAt("DEFINE 8", page.copy().define(8, 0, 0).endWithFont(0), 20);
        FileMaker file = page.copy().endWithFont(0);
        DUE.refusesAt("START: 1", file.changed(1, 1), 0);
        DUE.refusesAt("a pointer of BEGIN", file.changed(17, 0), 14);
        DUE.refusesAt("a pointer of LAST", file.changed(23, 15), 21);
        DUE.refusesAt("a MARK behind LAST", file.changed(36, 8), 33);
        DUE.refusesAt("a pointer of CLOSE", file.changed(41, 20), 39);
        DUE.refusesAt("CLOSE: 1", file.changed(42, 1), 39);
    }

    /** Each command but its last byte, where the whole one could stand; then the whole one. */
    private static void notWhole() {
        DUE.sentence("A command is wrong that .. is not whole");
        int[][] inPage = {{128, 66}, {129, 0, 1, 0, 1}, {130, 0, 1, 0, 1}, {136, 1}, {137, 0, 1}, {138, 0, 0, 1},
            {140, 1}, {141, 0, 1}, {142, 0, 0, 1}, {144, 1}, {145, 0, 1}, {146, 0, 0, 1}, {147, 1}, {148, 0, 1},
            {149, 0, 0, 1}, {151, 1}, {152, 0, 1}, {153, 0, 0, 1}, {155, 1}, {156, 0, 1}, {157, 0, 0, 1},
            {166, 1, 0, 0, 0, 0}};
        for (int[] command : inPage) {
            notWhole(FileMaker.pageWithFont(1, 1), command);
        }
        notWhole(new FileMaker(), 167, 2, 0, 1, 0, 1, 0, 1);
        notWhole(new FileMaker().start(1, 1, 1), 132, 0, 0, 255, 255);
        notWhole(new FileMaker().start(1, 1, 1), 166, 0, 0, 0, 0, 0);
        notWhole(new FileMaker().start(1, 1, 1), 168, 255, 255, 0, 1, 0, 1, 0, 1, 0, 0, 0);
        FileMaker close = new FileMaker().start(1, 1, 1).last(0);
        DUE.refusesAt("169, not whole", close.copy().raw(169, 0, 8), 20);
        DUE.reads("169, whole", close.copy().raw(169, 0, 8, 2, 223, 223, 223, 223), 0);
    }

    private static void notWhole(FileMaker before, int... command) {
        int at = before.here();
        for (int n = 1; n < command.length; n++) {
            FileMaker part = before.copy().raw(java.util.Arrays.copyOf(command, n));
            DUE.refusesAt(n + " bytes of " + command[0], part, at);
        }
        DUE.refusesAt(command[0] + ", whole, and no more", before.copy().raw(command), at + command.length);
    }

    private static void lookedForAtEnd() {
        DUE.sentence("(What has to be there just at END .. is looked for there)");
        FileMaker page = FileMaker.pageWithoutFont(1, 1, 1000).raw(134, 131, 134, 131);
        DUE.refusesAt("the stack is not empty", page.copy().end().last(2).close(), 17);
        DUE.refusesAt("the page has no END", page.copy(), 17);
        DUE.reads("the stack is empty in time", page.copy().raw(135, 135).end().last(2).close(), 1);
    }

    private static void lookedForAtLast() {
        DUE.sentence("(What has to be there just at .. LAST is looked for there)");
        FileMaker file = FileMaker.pageWithoutFont(1, 1, 1000).raw(134, 135).end().raw(131);
        DUE.reads("right", file.copy().last(1).close(), 1);
        DUE.refusesAt("DEPTH 0", file.copy().last(0).close(), 17);
        DUE.refusesAt("DEPTH 2", file.copy().last(2).close(), 17);
        FileMaker right = file.copy().last(1).close();
        DUE.refusesAt("no pages", right.changed(28, 0), 17);
        DUE.refusesAt("another MAG", right.changed(25, 233), 17);
        DUE.refusesAt("another pointer", right.changed(19, 9), 17);
    }

    private static void lookedForAtClose() {
        DUE.sentence("(.. and what at the end of the file, at CLOSE.)");
        FileMaker file = new FileMaker().start(1, 1, 1).define(0, 1, 1).define(1, 1, 1).last(0).define(1, 1, 1).raw(131);
        DUE.refusesAt("a font is not defined again", file.copy().close(), 39);
        DUE.refusesAt("a font and CLOSE are missing", file.copy(), 39);
        DUE.reads("it is, just ahead of CLOSE", file.copy().define(0, 1, 1).close(), 0);
        DUE.refusesAt("the file does not end", new FileMaker().start(1, 1, 1).last(0).raw(169, 0, 8, 2), 20);
    }

    private static void starts() {
        FileMaker file = FileMaker.withoutPages();
        for (int version : new int[] {0, 1, 3, 255}) {
            DUE.refusesAt("START with " + version, file.changed(1, version), 0);
        }
        // LAST has the same units, so that START's own rule is what refuses.
        DUE.refusesAt("NUM 0", new FileMaker().start(0, 1, 1).last(0).close(), 0);
        DUE.refusesAt("DEN 0", new FileMaker().start(1, 0, 1).last(0).close(), 0);
        DUE.refusesAt("MAG 0", new FileMaker().start(1, 1, 0).last(0).close(), 0);
        for (int op = 0; op < 256; op++) {
            if (op != 167) {
                DUE.refusesAt("first byte " + op, file.changed(0, op), 0);
            }
        }
    }

    private static int[] command(int op) {
        int[] whole = new int[12];
        whole[0] = op;
        return whole;
    }

    private static void commandsThatCannotStandThere() {
        for (int op = 0; op < 256; op++) {
            FileMaker before = new FileMaker().start(1, 1, 1);
            if (op != 131 && op != 166 && op != 132 && op != 168) {
                DUE.refusesAt(op + " outside a page", before.raw(command(op)), 8);
            }
            FileMaker between = new FileMaker().start(1, 1, 1).begin(1).end();
            if (op != 131 && op != 166 && op != 132 && op != 168) {
                DUE.refusesAt(op + " behind a page", between.raw(command(op)), 14);
            }
            FileMaker behind = new FileMaker().start(1, 1, 1).last(0);
            if (op != 131 && op != 169) {
                DUE.refusesAt(op + " behind LAST", behind.raw(command(op)), 20);
            }
            FileMaker inside = FileMaker.pageWithFont(1, 1).raw(131);
            if (op == 132 || op >= 167 || op == 135) {
                DUE.refusesAt(op + " in a page", inside.raw(command(op)), 21);
            }
        }
    }

    private static void pointers() {
        FileMaker file = new FileMaker().start(1, 1, 1).begin(1).end().raw(131).begin(2).end().begin(3).end();
        file.last(0).close();
        DUE.reads("three pages", file, 3);
        DUE.refusesAt("first BEGIN to 0", file.changed(11, 0, 0), 8);
        DUE.refusesAt("first BEGIN to 65534", file.changed(12, 254), 8);
        DUE.refusesAt("second BEGIN to nowhere", file.changed(18, 255, 255), 15);
        DUE.refusesAt("second BEGIN to itself", file.changed(19, 15), 15);
        DUE.refusesAt("third BEGIN to the first", file.changed(25, 8), 21);
        DUE.refusesAt("third BEGIN to 256 more", file.changed(24, 1), 21);
        DUE.refusesAt("LAST to the second BEGIN", file.changed(29, 15), 27);
        DUE.refusesAt("LAST to nowhere", file.changed(28, 255, 255), 27);
        DUE.refusesAt("CLOSE to the last BEGIN", file.changed(41, 21), 39);
        DUE.refusesAt("CLOSE to 256 more", file.changed(40, 1), 39);
        FileMaker none = FileMaker.withoutPages();
        DUE.refusesAt("LAST to 0 without pages", none.changed(9, 0, 0), 8);
        DUE.refusesAt("LAST to START without pages", none.changed(10, 8), 8);
    }

    private static void fontsAheadOfLast() {
        FileMaker page = FileMaker.pageWithFont(1, 1);
        int at = page.here();
        for (int font = 1; font < 8; font++) {
            DUE.refusesAt("FONT " + font + " undefined", page.firstBytes(at).raw(158 + font), at);
        }
        DUE.refusesAt("FONT ahead of its DEFINE", page.firstBytes(at).raw(159).define(1, 0, 0), at);
        DUE.refusesAt("DEFINE twice, in a page", page.firstBytes(at).define(0, 7, 64), at);
        DUE.refusesAt("DEFINE 8", page.firstBytes(at).define(8, 0, 0), at);
        DUE.refusesAt("DEFINE 255", page.firstBytes(at).define(255, 0, 0), at);
        FileMaker twice = new FileMaker().start(1, 1, 1).define(3, 1, 1).define(3, 1, 1);
        DUE.refusesAt("DEFINE twice, outside", twice.last(0).define(3, 1, 1).close(), 14);
        DUE.refusesAt("DEFINE 8, outside", new FileMaker().start(1, 1, 1).define(8, 1, 1).last(0).close(), 8);
    }

    private static void fontsBehindLast() {
        FileMaker file = new FileMaker().start(1, 1, 1).define(3, 258, 772).define(0, 1, 2).last(0);
        int at = file.here();
        FileMaker right = file.firstBytes(at).define(0, 1, 2).define(3, 258, 772);
        DUE.refusesAt("another MARK", file.firstBytes(at).define(3, 259, 772), at);
        DUE.refusesAt("another MARK's high byte", file.firstBytes(at).define(3, 2, 772), at);
        DUE.refusesAt("another SCALE", file.firstBytes(at).define(3, 258, 773), at);
        DUE.refusesAt("another SCALE's high byte", file.firstBytes(at).define(3, 258, 4), at);
        DUE.refusesAt("a font that was not defined", file.firstBytes(at).define(4, 258, 772), at);
        DUE.refusesAt("a font above 7", file.firstBytes(at).define(8, 258, 772), at);
        DUE.refusesAt("twice", right.firstBytes(right.here()).define(0, 1, 2), at + 12);
        int[] close = {169, 0, 20, 2, 223, 223, 223, 223};
        DUE.reads("both", right.firstBytes(right.here()).raw(close), 0);
        DUE.refusesAt("none of them", file.firstBytes(at).raw(close), at);
        DUE.refusesAt("one of them", file.firstBytes(at).define(3, 258, 772).raw(131, 131).raw(close), at + 8);
    }

    private static void lasts() {
        FileMaker file = new FileMaker().start(258, 772, 1286).begin(1).raw(134, 135).end().last(1).close();
        DUE.reads("LAST", file, 1);
        for (int i = 3; i < 12; i++) {
            DUE.refusesAt("LAST with another byte " + i, file.changed(16 + i, i == 9 ? 2 : 77), 16);
        }
        DUE.refusesAt("DEPTH 0", file.changed(25, 0), 16);
        DUE.refusesAt("no pages", file.changed(27, 0), 16);
        DUE.refusesAt("two pages", file.changed(27, 2), 16);
        DUE.refusesAt("257 pages", file.changed(26, 1), 16);
    }

    private static void closes() {
        FileMaker file = FileMaker.withoutPages();
        DUE.refusesAt("CLOSE with 3", file.changed(23, 3), 20);
        DUE.refusesAt("CLOSE with 0", file.changed(23, 0), 20);
        for (int i = 24; i < 28; i++) {
            DUE.refusesAt("another byte at " + i, file.changed(i, 222), 20);
            DUE.refusesAt("NOTHING at " + i, file.changed(i, 131), 20);
        }
        FileMaker longer = file.firstBytes(28).raw(223, 223, 223, 0);
        DUE.refusesAt("another byte behind 223s", longer, 20);
        DUE.refusesAt("a second CLOSE", file.firstBytes(24).raw(169, 0, 8, 2, 223, 223, 223, 223), 20);
        DUE.refusesAt("three 223s to a multiple of 4", new FileMaker().start(1, 1, 1).raw(131).last(0)
            .raw(169, 0, 9, 2, 223, 223, 223), 21);
    }

    private static void stack() {
        FileMaker page = FileMaker.pageWithoutFont(1, 1, 1);
        DUE.refusesAt("POP of nothing", page.firstBytes(13).raw(135), 13);
        DUE.refusesAt("one POP too many", page.firstBytes(13).raw(134, 135, 135), 15);
        DUE.refusesAt("PUSH left at END", page.firstBytes(13).raw(134, 134, 135, 133), 16);
        FileMaker next = FileMaker.pageWithoutFont(1, 1, 1).raw(134, 135).end().begin(2).raw(135);
        DUE.refusesAt("POP in the next page", next, 21);
    }

    private static void characters() {
        FileMaker page = FileMaker.pageWithFont(1, 1);
        for (int c = 128; c < 256; c++) {
            DUE.refusesAt("PUT " + c, page.firstBytes(20).raw(128, c), 20);
        }
        FileMaker without = new FileMaker().start(1, 1, 1).define(0, 0, 0).begin(1);
        DUE.refusesAt("SET without a font", without.firstBytes(19).raw(0), 19);
        DUE.refusesAt("PUT without a font", without.firstBytes(19).raw(128, 127), 19);
        FileMaker next = FileMaker.pageWithFont(1, 1).raw(1).end().begin(2).raw(131);
        DUE.refusesAt("the font of the page before, SET", next.firstBytes(28).raw(65), 28);
        DUE.refusesAt("the font of the page before, PUT", next.firstBytes(28).raw(128, 65), 28);
    }

    /** Each beginning of a right file is refused where its last command was not whole, or is missing. */
    private static void shortFiles() {
        FileMaker file = FileMaker.pageWithFont(3, 2);
        int[] begins = new int[200];
        int count = 0;
        int[][] page = {{65}, {128, 66}, {129, 0, 1, 0, 1}, {130, 0, 1, 0, 1}, {131}, {134}, {135}, {136, 1},
            {137, 0, 1}, {138, 0, 0, 1}, {139}, {140, 1}, {141, 0, 1}, {142, 0, 0, 1}, {143}, {144, 1}, {145, 0, 1},
            {146, 0, 0, 1}, {147, 1}, {148, 0, 1}, {149, 0, 0, 1}, {150}, {151, 1}, {152, 0, 1}, {153, 0, 0, 1},
            {154}, {155, 1}, {156, 0, 1}, {157, 0, 0, 1}};
        for (int address : new int[] {0, 8, 14, 19}) {
            begins[count++] = address;
        }
        for (int[] command : page) {
            begins[count++] = file.here();
            file.raw(command);
        }
        int end = file.here();
        for (int behind : new int[] {0, 1, 13, 19}) {
            begins[count++] = end + behind;
        }
        file.endWithFont(1);
        DUE.reads("the whole file", file, 1);
        for (int n = 0; n < file.here(); n++) {
            int wrong = 0;
            for (int i = 0; i < count; i++) {
                wrong = begins[i] <= n ? begins[i] : wrong;
            }
            DUE.refusesAt("the first " + n + " bytes", file.firstBytes(n), wrong);
        }
    }

    private static void latestRead() {
        PageReader x = FileMaker.withoutPages().reader();
        x.add(0, 1);
        DUE.is("wrong() before read()", x.wrong(), -1);
        DUE.refusesAt("a byte too many", x, 20);
        x.cut(1);
        DUE.is("wrong() behind cut", x.wrong(), 20);
        DUE.reads("right again", x, 0);
    }
}
