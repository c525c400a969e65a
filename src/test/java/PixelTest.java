/** Promise 8 and the terms CONV, R, C, to move and to hold: where the pixels stand. */
public final class PixelTest {
    private static final Due DUE = new Due("PixelTest");

    public static void main(String[] args) {
        heldFromAbove();
        heldFromBelow();
        smallMovesRight();
        smallMovesDown();
        scaleOfTheFontChosen();
        rounding();
        unitsThatWrap();
        pixelsOutOfReach();
        DUE.end();
    }

    /** HH of each item of page 0, with width w of character 65. */
    private static void pixels(String what, FileMaker file, int w, int... want) {
        PageReader x = file.reader();
        x.width(0, 65, w);
        DUE.reads(what, x, 1);
        for (int k = 0; k < want.length; k++) {
            DUE.is(what + ": HH of item " + k, x.item(0, k, 4), want[k]);
        }
    }

    private static void heldFromAbove() {
        pixels("1.5 each", FileMaker.pageWithFont(3, 2).times(9, 65).endWithFont(0), 1, 0, 2, 4, 6, 8, 10, 11, 13, 14);
        pixels("-1.4 each", FileMaker.pageWithFont(7, 5).times(9, 65).endWithFont(0), -1, 0, -1, -2, -3, -4, -5, -6, -8,
            -9);
        // Rules round up: 1.25 becomes 2.
        FileMaker rules = FileMaker.pageWithoutFont(5, 4, 1000);
        for (int i = 0; i < 6; i++) {
            rules.rule(129, 1, 1);
        }
        pixels("rules of 1.25", rules.endWithoutFont(0), 0, 0, 2, 4, 6, 7, 8);
    }

    private static void heldFromBelow() {
        pixels("1.4 each", FileMaker.pageWithFont(7, 5).times(9, 65).endWithFont(0), 1, 0, 1, 2, 3, 4, 5, 6, 8, 9);
        pixels("-1.5 each", FileMaker.pageWithFont(3, 2).times(9, 65).endWithFont(0), -1, 0, -2, -4, -6, -8, -10, -11,
            -13, -14);
    }

    /** With the scale 64 a small move is -39 .. 9 right; at H = 4, HH is 8, 2 more than R(H). */
    private static void smallMovesRight() {
        int[][] moves = {{9, 22}, {10, 21}, {-39, -51}, {-40, -54}, {0, 8}, {1, 10}, {-1, 6}, {100, 156}, {-100, -144}};
        for (int[] m : moves) {
            FileMaker file = FileMaker.pageWithFont(3, 2).times(4, 65).raw(136, m[0] & 255, 65).endWithFont(0);
            pixels("right by " + m[0], file, 1, 0, 2, 4, 6, m[1]);
            FileMaker byX = FileMaker.pageWithFont(3, 2).times(4, 65).raw(145, m[0] >> 8 & 255, m[0] & 255, 65);
            pixels("NEW X by " + m[0], byX.endWithFont(0), 1, 0, 2, 4, 6, m[1]);
        }
    }

    /** With the scale 64 a small move is -47 .. 47 down; at V = 4, VV is 8, 2 more than R(V). */
    private static void smallMovesDown() {
        int[][] moves = {{47, 79}, {48, 78}, {-47, -63}, {-48, -66}, {0, 8}, {1, 10}, {-1, 6}, {100, 156}, {-100, -144}};
        for (int[] m : moves) {
            FileMaker file = FileMaker.pageWithFont(3, 2).times(4, 147, 1).raw(147, m[0] & 255, 65).endWithFont(0);
            PageReader x = DUE.reads("down", file, 1);
            DUE.stands("down by " + m[0], x, 0, 0, 0, 4 + m[0], 0, m[1]);
        }
        FileMaker more = FileMaker.pageWithFont(3, 2);
        for (int i = 0; i < 8; i++) {
            more.raw(147, 1, 65);
        }
        PageReader x = DUE.reads("VV is held", more.endWithFont(0), 1);
        int[] vv = {2, 4, 6, 8, 10, 11, 13, 14};
        for (int k = 0; k < vv.length; k++) {
            DUE.stands("VV is held", x, 0, k, 0, k + 1, 0, vv[k]);
        }
    }

    /** The scale 5 has no small move right but small ones down; 4 has neither; 65535 is not below 0. */
    private static void scaleOfTheFontChosen() {
        int[][] scales = {{0, 6, 6}, {4, 6, 6}, {5, 6, 8}, {6, 6, 8}, {11, 6, 8}, {12, 8, 8}, {65535, 8, 8}};
        for (int[] s : scales) {
            FileMaker file = new FileMaker().start(3, 2, 1000).define(2, 0, s[0]).define(3, 0, 64).begin(1);
            file.raw(161, 160).times(4, 136, 1).times(4, 147, 1).raw(65).end().last(0);
            file.define(2, 0, s[0]).define(3, 0, 64).close();
            DUE.stands("scale " + s[0], DUE.reads("scale", file, 1), 0, 0, 4, 4, s[1], s[2]);
        }
    }

    private static void rounding() {
        int[][] right = {{1, 1}, {-1, -1}, {2, 1}, {-2, -1}, {3, 2}, {-3, -2}, {0, 0}, {5, 3}, {-5, -3}};
        for (int[] r : right) {
            FileMaker file = FileMaker.pageWithoutFont(1, 2, 1000).raw(136, r[0] & 255).rule(130, 1, 1);
            DUE.stands("half of " + r[0], DUE.reads("half", file.endWithoutFont(0), 1), 0, 0, r[0], 0, r[1], 0);
        }
        FileMaker rules = FileMaker.pageWithoutFont(1, 4, 1000).rule(130, 1, 4).rule(130, 5, 8).rule(130, 7, 9);
        PageReader x = DUE.reads("a fourth", rules.endWithoutFont(0), 1);
        int[][] up = {{1, 1}, {2, 2}, {3, 2}};
        for (int k = 0; k < 3; k++) {
            DUE.is("C of the width of rule " + k, x.item(0, k, 7), up[k][0]);
            DUE.is("C of the height of rule " + k, x.item(0, k, 8), up[k][1]);
        }
    }

    private static void unitsThatWrap() {
        FileMaker file = FileMaker.pageWithoutFont(1, 1, 1000).raw(142, 127, 255, 255).times(255, 139);
        file.raw(153, 128, 0, 0).times(255, 150).rule(130, 1, 1).raw(139, 150).rule(130, 1, 1);
        PageReader x = DUE.reads("256 moves", file.endWithoutFont(0), 1);
        int h = 8388607 * 256;
        // R(V) is one more than the least int, so R(V) - 2 wraps to the greatest one, and VV is less than that.
        DUE.stands("ahead of the wrap", x, 0, 0, h, Integer.MIN_VALUE, h, Integer.MAX_VALUE);
        int wrapped = (int) (8388607L * 257);
        DUE.stands("behind the wrap", x, 0, 1, wrapped, 2139095040, wrapped, 2139095040);
        DUE.is("most(0)", x.most(0), h);
        DUE.is("most(2)", x.most(2), wrapped);
    }

    /** CONV is 4294836.225 here, so that R is the greatest int from H = 501 on; the bounds of HH wrap there. */
    private static void pixelsOutOfReach() {
        int greatest = Integer.MAX_VALUE;
        FileMaker file = FileMaker.pageWithoutFont(65535, 1, 65535).raw(137, 3, 232, 148, 252, 24).rule(130, 32767, 501);
        file.rule(130, 500, 499).rule(129, 1, 1).rule(130, 1, 1);
        PageReader x = DUE.reads("out of reach", file.endWithoutFont(0), 1);
        DUE.stands("out of reach", x, 0, 0, 1000, -1000, greatest - 2, greatest);
        DUE.stands("out of reach, behind SET RULE", x, 0, 3, 1001, -1000, greatest - 2, greatest);
        DUE.is("C out of reach", x.item(0, 0, 7), Integer.MIN_VALUE);
        DUE.is("C out of reach, height", x.item(0, 0, 8), Integer.MIN_VALUE);
        DUE.is("C in reach", x.item(0, 1, 7), 2143123277);
        DUE.is("C in reach, height", x.item(0, 1, 8), 2147418113);
        pixelsThatWrap();
    }

    /** R(30000) is 1966050000 here: twice that wraps below 0, and R(60000) is the greatest int. */
    private static void pixelsThatWrap() {
        FileMaker file = FileMaker.pageWithFont(65535, 1).raw(65, 65, 65).endWithFont(0);
        pixels("a sum that wraps", file, 30000, 0, 1966050000, Integer.MAX_VALUE - 2);
    }
}
