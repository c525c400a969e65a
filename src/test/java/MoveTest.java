/** Terms: TO MOVE, TO HOLD, and the commands that move. */
public final class MoveTest {
    private static final Due DUE = new Due("MoveTest");
    private static final int[] RIGHT = {138, 142, 146};
    private static final int[] DOWN = {149, 153, 157};

    public static void main(String[] args) {
        smallMovesRight();
        smallMovesDown();
        withoutAFont();
        fontChosenLatest();
        smallMovesOfStrides();
        heldFromAbove();
        heldFromBelow();
        heldDown();
        setIsAnItem();
        putIsAnItem();
        setMoves();
        rulesThatAreItems();
        setRuleMoves();
        DUE.end();
    }

    /** R for CONV 3 / 2, in whole numbers. */
    private static int rounded(int n) {
        return n < 0 ? -((1 - 3 * n) / 2) : (3 * n + 1) / 2;
    }

    /** Font 1 makes the pixels go 2 ahead of R at 4, before font 0 with the scale is chosen. */
    private static void move(int op, int scale, int n, boolean small) {
        boolean right = op < 147;
        FileMaker file = new FileMaker().start(3, 2, 1000).define(0, 0, scale).define(1, 0, 64).begin(1).raw(159);
        file.times(4, right ? 136 : 147, 1).dot().raw(158, op).number(n, 3).dot().end().last(0);
        PageReader x = DUE.reads("a move", file.define(0, 0, scale).define(1, 0, 64).close(), 1);
        String what = "scale " + scale + ", " + op + " by " + n;
        DUE.is(what + ": pixels ahead of it", x.item(0, 0, right ? 4 : 5), 8);
        int to = 4 + n;
        int pixels = small ? 8 + rounded(n) : rounded(to);
        if (right) {
            DUE.stands(what, x, 0, 1, to, 0, pixels, 0);
        } else {
            DUE.stands(what, x, 0, 1, 0, to, 0, pixels);
        }
    }

    private static void moves(int[] ops, int scale, int leastSmall, int greatestSmall) {
        for (int op : ops) {
            move(op, scale, greatestSmall, true);
            move(op, scale, greatestSmall + 1, false);
            move(op, scale, leastSmall, true);
            move(op, scale, leastSmall - 1, false);
            move(op, scale, 8388607, false);
            move(op, scale, -8388608, false);
        }
    }

    private static void none(int[] ops, int scale) {
        for (int op : ops) {
            for (int n : new int[] {-2, -1, 0, 1, 2}) {
                move(op, scale, n, false);
            }
        }
    }

    private static void smallMovesRight() {
        DUE.sentence("TO MOVE right by n: n < its scale / 6 and n > -4 * (its scale / 6) (quotients rounded down)");
        none(RIGHT, 0);
        none(RIGHT, 1);
        none(RIGHT, 5);
        moves(RIGHT, 6, -3, 0);
        moves(RIGHT, 7, -3, 0);
        moves(RIGHT, 11, -3, 0);
        moves(RIGHT, 12, -7, 1);
        moves(RIGHT, 64, -39, 9);
        moves(RIGHT, 65, -39, 9);
        moves(RIGHT, 66, -43, 10);
        moves(RIGHT, 65535, -43687, 10921);
    }

    private static void smallMovesDown() {
        DUE.sentence("TO MOVE down by n: n < 4 * (scale / 5) and n > -4 * (scale / 5) (quotients rounded down)");
        none(DOWN, 0);
        none(DOWN, 1);
        none(DOWN, 4);
        moves(DOWN, 5, -3, 3);
        moves(DOWN, 6, -3, 3);
        moves(DOWN, 9, -3, 3);
        moves(DOWN, 10, -7, 7);
        moves(DOWN, 64, -47, 47);
        moves(DOWN, 65, -51, 51);
        moves(DOWN, 65535, -52427, 52427);
    }

    /** Four moves of 1.5 pixels are 6, not 8, and drift cannot come from them. */
    private static void withoutAFont() {
        DUE.sentence("Without a font: the otherwise");
        FileMaker file = new FileMaker().start(3, 2, 1000).define(0, 7, 64).begin(1);
        file.times(4, 136, 1).times(4, 147, 1).dot().times(4, 136, 255).times(4, 147, 255).dot();
        file.rule(129, 0, 1).rule(129, 0, 1).rule(129, 0, 1).rule(129, 0, 1).dot().raw(136, 0).dot();
        PageReader x = DUE.reads("without a font", file.raw(158).endWithFont(0), 1);
        DUE.stands("right and down", x, 0, 0, 4, 4, 6, 6);
        DUE.stands("left and up", x, 0, 1, 0, 0, 0, 0);
        DUE.stands("behind SET RULE", x, 0, 2, 4, 0, 8, 0);
        DUE.stands("moved by 0", x, 0, 3, 4, 0, 6, 0);
    }

    private static void fontChosenLatest() {
        DUE.sentence("if a font was chosen in the page and n < its scale / 6");
        FileMaker file = new FileMaker().start(3, 2, 1000).define(0, 7, 64).define(1, 7, 0).begin(1);
        file.raw(159, 158).times(4, 136, 1).dot().raw(159, 136, 0).dot().raw(158).times(4, 136, 1).dot();
        PageReader x = DUE.reads("fonts", file.end().last(0).define(0, 7, 64).define(1, 7, 0).close(), 1);
        DUE.stands("with the scale 64", x, 0, 0, 4, 0, 8, 0);
        DUE.stands("with the scale 0", x, 0, 1, 4, 0, 6, 0);
        DUE.stands("with the scale 64 again", x, 0, 2, 8, 0, 14, 0);
    }

    private static void smallMovesOfStrides() {
        DUE.sentence("W, X: W (X) is the move right; NEW: W (X) becomes the move, and is made. Y, Z likewise down");
        for (int op : new int[] {139, 143, 150, 154}) {
            FileMaker file = FileMaker.pageWithFont(3, 2).raw(op + 1, 1).dot().raw(op).dot().raw(op, op).dot();
            file.raw(op + 1, 2).dot().raw(op).dot();
            PageReader x = DUE.reads("strides", file.endWithFont(0), 1);
            int[][] at = {{1, 2}, {2, 4}, {4, 8}, {6, 11}, {8, 14}};
            for (int k = 0; k < at.length; k++) {
                boolean right = op < 147;
                DUE.stands(op + ", item " + k, x, 0, k, right ? at[k][0] : 0, right ? 0 : at[k][0],
                    right ? at[k][1] : 0, right ? 0 : at[k][1]);
            }
        }
    }

    /** HH of the dots behind each of some steps, with the width w of character 65. */
    private static void steps(String what, int num, int den, int[] step, int w, int... pixels) {
        FileMaker file = FileMaker.pageWithFont(num, den);
        for (int i = 0; i < pixels.length; i++) {
            file.raw(step).dot();
        }
        PageReader x = file.endWithFont(0).reader();
        x.width(0, 65, w);
        DUE.reads(what, x, 1);
        int per = x.page(0, 1) / pixels.length;
        for (int i = 0; i < pixels.length; i++) {
            DUE.is(what + ", step " + i, x.item(0, (i + 1) * per - 1, 4), pixels[i]);
        }
    }

    private static void heldFromAbove() {
        DUE.sentence("TO HOLD HH: if it is greater than R(H) + 2 it becomes that");
        int[] drift = {2, 4, 6, 8, 10, 11, 13, 14, 16, 17};
        steps("SET of 1.5", 3, 2, new int[] {65}, 1, drift);
        steps("RIGHT by 1.5", 3, 2, new int[] {136, 1}, 0, drift);
        steps("a rule of 1.5", 3, 2, new int[] {129, 0, 1, 0, 1}, 0, drift);
        steps("SET of -1.4", 7, 5, new int[] {65}, -1, -1, -2, -3, -4, -5, -6, -8, -9, -11);
        steps("a rule of 1.25", 5, 4, new int[] {129, 0, 0, 0, 1}, 0, 2, 4, 6, 7, 8, 10);
        steps("RIGHT by -1.4", 7, 5, new int[] {136, 255}, 0, -1, -2, -3, -4, -5, -6, -8, -9, -11);
    }

    private static void heldFromBelow() {
        DUE.sentence("if it is less than R(H) - 2 it becomes that");
        int[] drift = {-2, -4, -6, -8, -10, -11, -13, -14, -16, -17};
        steps("SET of -1.5", 3, 2, new int[] {65}, -1, drift);
        steps("RIGHT by -1.5", 3, 2, new int[] {136, 255}, 0, drift);
        steps("a rule of -1.5", 3, 2, new int[] {129, 0, 1, 255, 255}, 0, drift);
        steps("SET of 1.4", 7, 5, new int[] {65}, 1, 1, 2, 3, 4, 5, 6, 8, 9, 11);
        steps("RIGHT by 1.4", 7, 5, new int[] {136, 1}, 0, 1, 2, 3, 4, 5, 6, 8, 9, 11);
    }

    private static void heldDown() {
        DUE.sentence("(with V likewise)");
        int[][] cases = {{3, 2, 1}, {3, 2, -1}, {7, 5, 1}, {7, 5, -1}};
        int[][] pixels = {{2, 4, 6, 8, 10, 11, 13, 14, 16}, {-2, -4, -6, -8, -10, -11, -13, -14, -16},
            {1, 2, 3, 4, 5, 6, 8, 9, 11}, {-1, -2, -3, -4, -5, -6, -8, -9, -11}};
        for (int i = 0; i < cases.length; i++) {
            FileMaker file = FileMaker.pageWithFont(cases[i][0], cases[i][1]);
            for (int k = 0; k < pixels[i].length; k++) {
                file.raw(147, cases[i][2] & 255).dot();
            }
            PageReader x = DUE.reads("down", file.endWithFont(0), 1);
            for (int k = 0; k < pixels[i].length; k++) {
                DUE.stands("down, step " + k, x, 0, k, 0, (k + 1) * cases[i][2], 0, pixels[i][k]);
            }
        }
    }

    private static void setIsAnItem() {
        DUE.sentence("SET: an ITEM, the character of the font chosen at H, V, HH, VV");
        PageReader x = FileMaker.pageWithFont(3, 2).raw(136, 9, 147, 20, 65).dot().endWithFont(0).reader();
        x.width(0, 65, 4);
        DUE.reads("SET", x, 1);
        DUE.is("the character", x.item(0, 0, 0), 65);
        DUE.is("the font", x.item(0, 0, 1), 0);
        DUE.stands("ahead of its own move", x, 0, 0, 9, 20, 14, 30);
        DUE.stands("behind it", x, 0, 1, 13, 20, 20, 30);
    }

    private static void putIsAnItem() {
        DUE.sentence("PUT: an ITEM, without a move");
        FileMaker file = FileMaker.pageWithFont(3, 2).raw(136, 9, 147, 20, 128, 65, 128, 65).dot();
        PageReader x = file.endWithFont(0).reader();
        x.width(0, 65, 4);
        DUE.reads("PUT", x, 1);
        for (int k = 0; k < 3; k++) {
            DUE.stands("item " + k, x, 0, k, 9, 20, 14, 30);
        }
        DUE.is("the character", x.item(0, 1, 0), 65);
    }

    /** The width is no move: it is never too great to sum up pixels. */
    private static void setMoves() {
        DUE.sentence("For SET, then, with w the WIDTH: HH grows by R(w), H by w, and HH is held");
        for (int w : new int[] {-30000, -101, -40, -39, 0, 1, 9, 10, 11, 101, 30000}) {
            FileMaker file = FileMaker.pageWithFont(3, 2).times(4, 66).dot().raw(65).dot();
            PageReader x = file.endWithFont(0).reader();
            x.width(0, 66, 1);
            x.width(0, 65, w);
            DUE.reads("SET", x, 1);
            DUE.is("HH ahead of it", x.item(0, 4, 4), 8);
            DUE.stands("width " + w, x, 0, 6, 4 + w, 0, 8 + rounded(w), 0);
        }
    }

    private static void rulesThatAreItems() {
        DUE.sentence("SET RULE and PUT RULE: if both numbers are above 0, an ITEM, a rule");
        int[][] items = {{1, 1}, {1, 32767}, {32767, 1}, {32767, 32767}};
        int[][] none = {{0, 1}, {1, 0}, {0, 0}, {-1, 1}, {1, -1}, {-1, -1}, {-32768, 1}, {1, -32768}};
        for (int op = 129; op <= 130; op++) {
            for (int[] i : items) {
                FileMaker file = FileMaker.pageWithoutFont(1, 1, 1000).rule(op, i[0], i[1]).endWithoutFont(0);
                PageReader x = DUE.reads("a rule", file, 1);
                DUE.is("items", x.page(0, 1), 1);
                DUE.is("a rule", x.item(0, 0, 0), 128);
                DUE.is("its height", x.item(0, 0, 1), i[0]);
                DUE.is("its width", x.item(0, 0, 6), i[1]);
            }
            for (int[] n : none) {
                FileMaker file = FileMaker.pageWithoutFont(1, 1, 1000).rule(op, n[0], n[1]).endWithoutFont(0);
                DUE.is(op + " " + n[0] + ", " + n[1], DUE.reads("no item", file, 1).page(0, 1), 0);
            }
        }
    }

    /** With CONV 5 / 4: C(1) is 2 and R(1) is 1, C(-3) would be -3 and R(-3) is -4. */
    private static void setRuleMoves() {
        DUE.sentence("for SET, then, with b the width: HH grows by C(b) if b is above 0, otherwise by R(b); H by b");
        int[][] rules = {{1, 1, 1, 2}, {1, 3, 3, 4}, {1, 4, 4, 5}, {0, 1, 1, 2}, {-9, 1, 1, 2}, {1, 0, 0, 0},
            {1, -1, -1, -1}, {1, -2, -2, -3}, {1, -3, -3, -4}, {0, -3, -3, -4}, {-32768, -32768, -32768, -40960},
            {32767, 32767, 32767, 40959}};
        for (int[] r : rules) {
            FileMaker file = FileMaker.pageWithoutFont(5, 4, 1000).rule(129, r[0], r[1]).dot();
            PageReader x = DUE.reads("SET RULE", file.endWithoutFont(0), 1);
            int k = x.page(0, 1) - 1;
            DUE.stands("SET RULE " + r[0] + ", " + r[1], x, 0, k, r[2], 0, r[3], 0);
            FileMaker put = FileMaker.pageWithoutFont(5, 4, 1000).rule(130, r[0], r[1]).dot();
            PageReader y = DUE.reads("PUT RULE", put.endWithoutFont(0), 1);
            DUE.stands("PUT RULE " + r[0] + ", " + r[1], y, 0, y.page(0, 1) - 1, 0, 0, 0, 0);
        }
    }
}
