/** Terms: the COMMANDS, from the first to the last byte of each kind. */
public final class CommandTest {
    private static final Due DUE = new Due("CommandTest");

    public static void main(String[] args) {
        setCharacters();
        putCharacters();
        putRuleDoesNotMove();
        nothingDoesNothing();
        strides();
        plainMovesLeaveStrides();
        fonts();
        defines();
        twos();
        otherBytes();
        DUE.end();
    }

    private static void setCharacters() {
        DUE.sentence("0 .. 127 SET that character");
        FileMaker file = FileMaker.pageWithFont(1, 1);
        for (int c = 0; c < 128; c++) {
            file.raw(c);
        }
        PageReader x = file.endWithFont(0).reader();
        x.width(0, 0, 10);
        x.width(0, 127, 10);
        DUE.reads("all characters", x, 1);
        DUE.is("items", x.page(0, 1), 128);
        for (int c = 0; c < 128; c++) {
            DUE.is("character " + c, x.item(0, c, 0), c);
        }
        DUE.is("H behind SET 0", x.item(0, 1, 2), 10);
        FileMaker last = FileMaker.pageWithFont(1, 1).raw(127).dot().endWithFont(0);
        PageReader y = last.reader();
        y.width(0, 127, 10);
        DUE.reads("SET 127", y, 1);
        DUE.is("H behind SET 127", y.item(0, 1, 2), 10);
    }

    private static void putCharacters() {
        DUE.sentence("128 PUT, a character (1 byte, 0 .. 127)");
        FileMaker file = FileMaker.pageWithFont(1, 1);
        for (int c = 0; c < 128; c++) {
            file.raw(128, c);
        }
        PageReader x = file.endWithFont(0).reader();
        x.width(0, 0, 10);
        x.width(0, 127, 10);
        DUE.reads("all characters", x, 1);
        for (int c = 0; c < 128; c++) {
            DUE.is("character " + c, x.item(0, c, 0), c);
        }
        DUE.is("H behind PUT 0", x.item(0, 1, 2), 0);
        FileMaker page = FileMaker.pageWithFont(1, 1);
        DUE.refusesAt("PUT 128", page.copy().raw(128, 128).endWithFont(0), 20);
        DUE.refusesAt("PUT 131", page.copy().raw(128, 131).endWithFont(0), 20);
        DUE.refusesAt("PUT 255", page.copy().raw(128, 255).endWithFont(0), 20);
        PageReader y = page.copy().raw(128, 127).dot().endWithFont(0).reader();
        y.width(0, 127, 10);
        DUE.reads("PUT 127", y, 1);
        DUE.stands("behind PUT 127", y, 0, 1, 0, 0, 0, 0);
    }

    private static void putRuleDoesNotMove() {
        DUE.sentence("129 SET RULE, height and width; 130 PUT RULE, likewise");
        FileMaker file = FileMaker.pageWithoutFont(1, 1, 1000).rule(130, 3, 20).rule(129, 4, 50).rule(130, 5, 7);
        PageReader x = DUE.reads("rules", file.rule(130, -1, 9).rule(130, 1, -9).dot().endWithoutFont(0), 1);
        int[][] rules = {{3, 0, 20}, {4, 0, 50}, {5, 50, 7}, {1, 50, 1}};
        DUE.is("items", x.page(0, 1), 4);
        for (int k = 0; k < 4; k++) {
            DUE.is("kind of rule " + k, x.item(0, k, 0), 128);
            DUE.is("height of rule " + k, x.item(0, k, 1), rules[k][0]);
            DUE.is("H of rule " + k, x.item(0, k, 2), rules[k][1]);
            DUE.is("width of rule " + k, x.item(0, k, 6), rules[k][2]);
        }
    }

    private static void nothingDoesNothing() {
        DUE.sentence("131 NOTHING");
        FileMaker file = FileMaker.pageWithFont(1, 1).raw(131, 140, 5, 131, 65, 131, 139, 131, 66);
        PageReader x = DUE.reads("NOTHING", file.endWithFont(0), 1);
        DUE.is("items", x.page(0, 1), 2);
        DUE.stands("behind NOTHING", x, 0, 1, 10, 0, 10, 0);
    }

    private static void strides() {
        DUE.sentence("139 W; 140, 141, 142 NEW W, a move (X, Y, Z likewise)");
        int[] plain = {139, 143, 150, 154};
        for (int op : plain) {
            FileMaker file = FileMaker.pageWithoutFont(1, 1, 1000).raw(op).dot();
            for (int bytes = 1; bytes <= 3; bytes++) {
                file.raw(op + bytes).number(bytes, bytes).dot().raw(op).dot();
            }
            // The others are still 0.
            for (int other : plain) {
                if (other != op) {
                    file.raw(other);
                }
            }
            PageReader x = DUE.reads("strides", file.dot().endWithoutFont(0), 1);
            int[] at = {0, 1, 2, 4, 6, 9, 12, 12};
            for (int k = 0; k < at.length; k++) {
                int h = op < 147 ? at[k] : 0;
                int v = op < 147 ? 0 : at[k];
                DUE.stands(op + ", item " + k, x, 0, k, h, v, h, v);
            }
        }
    }

    private static void plainMovesLeaveStrides() {
        DUE.sentence("136, 137, 138 RIGHT, 147 .. 149 DOWN, a move: W, X, Y, Z stay");
        FileMaker file = FileMaker.pageWithoutFont(1, 1, 1000);
        file.raw(136, 9, 137, 0, 9, 138, 0, 0, 9, 139, 143).dot();
        file.raw(147, 9, 148, 0, 9, 149, 0, 0, 9, 150, 154).dot();
        file.raw(140, 1, 144, 2, 151, 3, 155, 4, 136, 50, 147, 50).dot().raw(139).dot().raw(143).dot();
        file.raw(150).dot().raw(154).dot();
        PageReader x = DUE.reads("plain moves", file.endWithoutFont(0), 1);
        int[][] at = {{27, 0}, {27, 27}, {80, 84}, {81, 84}, {83, 84}, {83, 87}, {83, 91}};
        for (int k = 0; k < at.length; k++) {
            DUE.stands("item " + k, x, 0, k, at[k][0], at[k][1], at[k][0], at[k][1]);
        }
    }

    private static FileMaker allFonts(FileMaker file) {
        for (int font = 0; font < 8; font++) {
            file.define(font, font, 100 + font);
        }
        return file;
    }

    private static void fonts() {
        DUE.sentence("158 .. 165 FONT 0 .. 7");
        FileMaker file = allFonts(new FileMaker().start(1, 1, 1000)).begin(1);
        for (int font = 0; font < 8; font++) {
            file.raw(158 + font, 65, 128, 66);
        }
        PageReader x = allFonts(file.end().last(0)).close().reader();
        for (int font = 0; font < 8; font++) {
            x.width(font, 65, 1 << font);
        }
        DUE.reads("all fonts", x, 1);
        for (int font = 0; font < 8; font++) {
            DUE.is("font of SET", x.item(0, 2 * font, 1), font);
            DUE.is("font of PUT", x.item(0, 2 * font + 1, 1), font);
            DUE.is("H behind SET", x.item(0, 2 * font + 1, 2), (2 << font) - 1);
        }
    }

    private static void defines() {
        DUE.sentence("166 DEFINE, a font (1 byte, 0 .. 7), its MARK and SCALE");
        for (int font : new int[] {0, 7, 8, 9, 128, 255}) {
            FileMaker ahead = new FileMaker().start(1, 1, 1000).define(font, 1, 2);
            FileMaker inside = FileMaker.pageWithoutFont(1, 1, 1000).define(font, 1, 2);
            if (font < 8) {
                DUE.reads("DEFINE " + font, ahead.last(0).define(font, 1, 2).close(), 0);
                DUE.reads("DEFINE " + font + " in a page", inside.end().last(0).define(font, 1, 2).close(), 1);
            } else {
                DUE.refusesAt("DEFINE " + font, ahead.last(0).define(font, 1, 2).close(), 8);
                DUE.refusesAt("DEFINE " + font + " in a page", inside.end().last(0).define(font, 1, 2).close(), 13);
                FileMaker behind = new FileMaker().start(1, 1, 1000).define(0, 1, 2).define(7, 1, 2).last(0);
                behind.define(0, 1, 2).define(7, 1, 2).define(font, 1, 2).close();
                DUE.refusesAt("DEFINE " + font + " behind LAST", behind, 44);
            }
        }
    }

    private static void twos() {
        FileMaker file = FileMaker.withoutPages();
        DUE.sentence("167 START: 2; 169 CLOSE: a pointer, 2");
        DUE.reads("both 2", file, 0);
        for (int other : new int[] {0, 1, 3, 130, 223, 255}) {
            DUE.refusesAt("START: " + other, file.changed(1, other), 0);
            DUE.refusesAt("CLOSE: " + other, file.changed(23, other), 20);
        }
    }

    /** In the midst of a file that would be right with NOTHING in its place, where NOTHING may stand. */
    private static void otherBytes() {
        DUE.sentence("Other bytes are no commands");
        FileMaker file = new FileMaker().start(1, 1, 1000).raw(131).begin(1).raw(131).end().raw(131).begin(2).end();
        file.raw(131).last(0).raw(131).close();
        DUE.reads("NOTHING everywhere", file, 2);
        for (int op = 170; op < 256; op++) {
            for (int address : new int[] {0, 8, 14, 16, 23, 36}) {
                DUE.refusesAt(op + " at " + address, file.changed(address, op), address);
            }
        }
    }
}
