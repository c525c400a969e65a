/** Terms: THE PLACE, CONV, R and C. */
public final class PlaceTest {
    private static final Due DUE = new Due("PlaceTest");
    private static final int LEAST = Integer.MIN_VALUE;
    private static final int GREATEST = Integer.MAX_VALUE;

    public static void main(String[] args) {
        allIs0AtBegin();
        noFontAtBegin();
        unitsWrapInMoves();
        unitsWrapInSet();
        unitsWrapInSetRule();
        pixelsWrapInSums();
        pixelsWrapInSumsDown();
        boundsOfHoldingWrap();
        conv();
        roundedAtOneHalf();
        roundedInDoubles();
        roundedUp();
        roundedUpInDoubles();
        tooGreatForRounded();
        tooSmallForRounded();
        tooGreatForRoundedUp();
        DUE.end();
    }

    /** Where the last dot of a page without a font stands. */
    private static void stands(String what, FileMaker page, int... place) {
        PageReader x = DUE.reads(what, page.dot().endWithoutFont(0), 1);
        DUE.stands(what, x, 0, x.page(0, 1) - 1, place);
    }

    /** Where the last dot of a page stands in which character 65 of font 0 has the width w. */
    private static void standsWithFont(String what, FileMaker page, int w, int... place) {
        PageReader x = page.dot().end().last(0).define(0, 7, 65535).close().reader();
        x.width(0, 65, w);
        DUE.reads(what, x, 1);
        DUE.stands(what, x, 0, x.page(0, 1) - 1, place);
    }

    private static FileMaker page(int num, int den) {
        return FileMaker.pageWithoutFont(num, den, 1000);
    }

    private static FileMaker pageWithFont(int num, int den, int mag) {
        return new FileMaker().start(num, den, mag).define(0, 7, 65535).begin(1).raw(158);
    }

    private static void allIs0AtBegin() {
        DUE.sentence("H, V, W, X, Y, Z and the pixels HH, VV, all 0 at BEGIN");
        FileMaker file = page(3, 2).dot().raw(140, 9, 144, 9, 151, 9, 155, 9).dot().end().begin(2).dot();
        for (int stride : new int[] {139, 143, 150, 154}) {
            file.raw(stride).dot();
        }
        PageReader x = DUE.reads("two pages", file.endWithoutFont(0), 2);
        DUE.stands("the first page", x, 0, 0, 0, 0, 0, 0);
        DUE.stands("moved", x, 0, 1, 18, 18, 27, 27);
        for (int k = 0; k < 5; k++) {
            DUE.stands("the second page, item " + k, x, 1, k, 0, 0, 0, 0);
        }
    }

    /** Small moves sum up pixels, 8 for four of them, but only with a font of the page. */
    private static void noFontAtBegin() {
        DUE.sentence("no font (at BEGIN)");
        FileMaker file = FileMaker.pageWithFont(3, 2).times(4, 136, 1).times(4, 147, 1).dot().end().begin(2);
        PageReader x = DUE.reads("two pages", file.times(4, 136, 1).times(4, 147, 1).dot().endWithFont(0), 2);
        DUE.stands("with a font", x, 0, 0, 4, 4, 8, 8);
        DUE.stands("with the font of the page before", x, 1, 0, 4, 4, 6, 6);
    }

    private static void unitsWrapInMoves() {
        DUE.sentence("H, V (ints that wrap): moves");
        stands("the greatest H but 2", page(1, 1).farRight(GREATEST - 2), GREATEST - 2, 0, GREATEST - 2, 0);
        stands("H wraps up", page(1, 1).farRight(GREATEST).raw(137).number(1000, 2), LEAST + 999, 0, LEAST + 999, 0);
        stands("the least H but 2", page(1, 1).farRight(LEAST + 2), LEAST + 2, 0, LEAST + 2, 0);
        stands("H wraps down", page(1, 1).farRight(LEAST).raw(137).number(-1000, 2), GREATEST - 999, 0, GREATEST - 999,
            0);
        stands("the greatest V but 2", page(1, 1).farDown(GREATEST - 2), 0, GREATEST - 2, 0, GREATEST - 2);
        stands("V wraps up", page(1, 1).farDown(GREATEST).raw(148).number(1000, 2), 0, LEAST + 999, 0, LEAST + 999);
        stands("the least V but 2", page(1, 1).farDown(LEAST + 2), 0, LEAST + 2, 0, LEAST + 2);
        stands("V wraps down", page(1, 1).farDown(LEAST).raw(148).number(-1000, 2), 0, GREATEST - 999, 0,
            GREATEST - 999);
    }

    private static void unitsWrapInSet() {
        DUE.sentence("H (ints that wrap): SET");
        standsWithFont("up", pageWithFont(1, 1, 1000).farRight(GREATEST - 10).raw(65), 30000, -2147453659, 0,
            -2147453659, 0);
        standsWithFont("down", pageWithFont(1, 1, 1000).farRight(LEAST + 10).raw(65), -30000, 2147453658, 0, 2147453658,
            0);
    }

    private static void unitsWrapInSetRule() {
        DUE.sentence("H (ints that wrap): SET RULE");
        stands("up", page(1, 1).farRight(GREATEST - 10).rule(129, 1, 30000), -2147453659, 0, -2147453659, 0);
        stands("down", page(1, 1).farRight(LEAST + 10).rule(129, 1, -30000), 2147453658, 0, 2147453658, 0);
    }

    /**
     * With CONV 2.5 each step of 1 rounds to 3: the sixth one makes HH 3 more than R(H), which is the greatest int but
     * 2. So HH is below R(H) - 2 once it has wrapped. With CONV 1.5 and steps of -1 likewise at the least int.
     */
    private static void pixelsWrapInSums() {
        DUE.sentence("the pixels HH, VV (ints that wrap, in sums, too): HH grows");
        int up = 858993452;
        standsWithFont("SET, ahead of it", pageWithFont(5, 2, 1000).farRight(up).times(5, 65), 1, up + 5, 0,
            GREATEST - 2, 0);
        standsWithFont("SET", pageWithFont(5, 2, 1000).farRight(up).times(6, 65), 1, up + 6, 0, GREATEST - 4, 0);
        standsWithFont("RIGHT", pageWithFont(5, 2, 1000).farRight(up).times(6, 136, 1), 0, up + 6, 0, GREATEST - 4, 0);
        int down = -1431655758;
        standsWithFont("SET, ahead of it", pageWithFont(3, 2, 1000).farRight(down).times(5, 65), -1, down - 5, 0,
            LEAST + 1, 0);
        standsWithFont("SET", pageWithFont(3, 2, 1000).farRight(down).times(6, 65), -1, down - 6, 0, LEAST + 4, 0);
        standsWithFont("RIGHT", pageWithFont(3, 2, 1000).farRight(down).times(6, 136, 255), 0, down - 6, 0, LEAST + 4,
            0);
        // A rule of 1.25 pixels rounds up to 2: the fourth one makes HH 3 more than R(H).
        int rules = 1717986912;
        FileMaker three = page(5, 4).farRight(rules).rule(129, 0, 1).rule(129, 0, 1).rule(129, 0, 1);
        stands("SET RULE, ahead of it", three.copy(), rules + 3, 0, GREATEST - 1, 0);
        stands("SET RULE", three.copy().rule(129, 0, 1), rules + 4, 0, GREATEST - 4, 0);
    }

    private static void pixelsWrapInSumsDown() {
        DUE.sentence("the pixels HH, VV (ints that wrap, in sums, too): VV grows");
        int up = 858993452;
        standsWithFont("DOWN, ahead of it", pageWithFont(5, 2, 1000).farDown(up).times(5, 147, 1), 0, 0, up + 5, 0,
            GREATEST - 2);
        standsWithFont("DOWN", pageWithFont(5, 2, 1000).farDown(up).times(6, 147, 1), 0, 0, up + 6, 0, GREATEST - 4);
        int down = -1431655758;
        standsWithFont("DOWN by -1", pageWithFont(3, 2, 1000).farDown(down).times(6, 147, 255), 0, 0, down - 6, 0,
            LEAST + 4);
    }

    /** From R(H) = the greatest int but 1 on, R(H) + 2 wraps; up to the least int but 1, R(H) - 2 does. */
    private static void boundsOfHoldingWrap() {
        DUE.sentence("the pixels HH, VV (ints that wrap, in sums, too): R(H) + 2 and R(H) - 2");
        int[][] held = {{GREATEST - 2, GREATEST - 2}, {GREATEST - 1, GREATEST - 3}, {GREATEST, GREATEST - 2},
            {LEAST + 2, LEAST + 2}, {LEAST + 1, GREATEST}, {LEAST, GREATEST}};
        for (int[] h : held) {
            stands("H " + h[0], page(1, 1).farRight(h[0]), h[0], 0, h[1], 0);
            stands("V " + h[0], page(1, 1).farDown(h[0]), 0, h[0], 0, h[1]);
        }
    }

    private static void conv() {
        DUE.sentence("CONV is (NUM / DEN) * (MAG / 1000), all as doubles, in these steps");
        int[][] units = {{1, 1, 1}, {1, 3, 1000}, {1, 3, 3000}, {10, 3, 300}, {49, 10, 700}, {65535, 65535, 65535},
            {1, 65535, 1}, {65535, 1, 65535}, {78, 14, 700}, {7, 10, 1440}};
        for (int[] u : units) {
            PageReader x = DUE.reads("units", new FileMaker().start(u[0], u[1], u[2]).last(0).close(), 0);
            double first = (double) u[0] / (double) u[1];
            double second = (double) u[2] / 1000.0;
            DUE.isExactly("conv() of " + u[0] + ", " + u[1] + ", " + u[2], x.conv(), first * second);
        }
        // Written out, since the formula above could have the same slip: other steps answer 3.9 here.
        PageReader x = DUE.reads("78 / 14 * 0.7", new FileMaker().start(78, 14, 700).last(0).close(), 0);
        DUE.isExactly("conv() of 78, 14, 700", x.conv(), 3.8999999999999995);
    }

    private static void roundedAtOneHalf() {
        DUE.sentence("R(n) is (int) (t + 0.5) when t is not below 0, otherwise -(int) (0.5 - t)");
        int[][] halves = {{1, 2, 1, 1}, {1, 2, -1, -1}, {1, 2, 3, 2}, {1, 2, -3, -2}, {1, 2, 0, 0}, {1, 2, 2, 1},
            {1, 2, -2, -1}, {32767, 65535, 1, 0}, {32767, 65535, -1, 0}, {32768, 65535, 1, 1}, {32768, 65535, -1, -1},
            {65535, 43691, 1, 1}, {65535, 43691, -1, -1}, {65535, 43690, 1, 2}, {65535, 43690, -1, -2},
            {65535, 1, 1, 65535}, {1, 65535, 32767, 0}, {1, 65535, 32768, 1}, {1, 65535, -32768, -1}};
        for (int[] h : halves) {
            FileMaker right = page(h[0], h[1]).raw(138).number(h[2], 3);
            stands("R of " + h[2] + " * " + h[0] + " / " + h[1], right, h[2], 0, h[3], 0);
            FileMaker down = page(h[0], h[1]).raw(149).number(h[2], 3);
            stands("R of " + h[2] + " * " + h[0] + " / " + h[1], down, 0, h[2], 0, h[3]);
        }
    }

    /** t is a little below what it would be in whole numbers: 25.5, 13.5 and 19.5. */
    private static void roundedInDoubles() {
        DUE.sentence("R(n) is, with t = CONV * n (as doubles)");
        stands("17 / 14 * 21", page(17, 14).raw(136, 21), 21, 0, 25, 0);
        stands("17 / 14 * -21", page(17, 14).raw(136, 256 - 21), -21, 0, -25, 0);
        FileMaker other = FileMaker.pageWithoutFont(132, 44, 300).raw(147, 15);
        stands("132 / 44 * 0.3 * 15", other, 0, 15, 0, 13);
        FileMaker third = FileMaker.pageWithoutFont(78, 14, 700).raw(147, 5);
        stands("78 / 14 * 0.7 * 5", third, 0, 5, 0, 19);
    }

    private static void roundedUp(int num, int den, int mag, int width, int pixels) {
        FileMaker file = FileMaker.pageWithoutFont(num, den, mag).rule(130, 1, width).rule(130, width, 1);
        PageReader x = DUE.reads("rules", file.endWithoutFont(0), 1);
        String what = num + " / " + den + " * " + mag + " / 1000 * " + width;
        DUE.is("C of " + what + ", a width", x.item(0, 0, 7), pixels);
        DUE.is("C of " + what + ", a height", x.item(0, 1, 8), pixels);
    }

    private static void roundedUp() {
        DUE.sentence("C(n) is (int) t, or 1 more if that is less than t");
        int[][] rules = {{1, 1, 1, 1}, {1, 1, 32767, 32767}, {1, 4, 4, 1}, {1, 4, 5, 2}, {1, 4, 7, 2}, {1, 4, 8, 2},
            {1, 4, 1, 1}, {1, 65535, 1, 1}, {65535, 65534, 1, 2}, {65534, 65535, 1, 1}, {65535, 1, 2, 131070}};
        for (int[] r : rules) {
            roundedUp(r[0], r[1], 1000, r[2], r[3]);
        }
        FileMaker file = page(1, 4).rule(129, 1, 4);
        stands("HH behind a rule of 1", file, 4, 0, 1, 0);
        stands("HH behind a rule of 1.25", page(1, 4).rule(129, 1, 5), 5, 0, 2, 0);
    }

    /** t is a little above the whole number. */
    private static void roundedUpInDoubles() {
        DUE.sentence("C(n) is (int) t, or 1 more if that is less than t (as doubles)");
        roundedUp(40, 100, 1500, 90, 55);
        roundedUp(30, 75, 100, 75, 4);
        roundedUp(40, 100, 1500, 5, 4);
        roundedUp(40, 100, 1500, 1, 1);
    }

    /** What R answers is seen through the bounds R(H) + 2 and R(H) - 2. */
    private static void tooGreatForRounded() {
        DUE.sentence("((int) of what is too great .. is the greatest .. int): R");
        int[][] places = {{1073741822, GREATEST - 3}, {1073741823, GREATEST - 3}, {1073741824, GREATEST - 2},
            {1073741825, GREATEST - 2}, {GREATEST, GREATEST - 2}};
        for (int[] p : places) {
            stands("H " + p[0], page(2, 1).farRight(p[0]), p[0], 0, p[1], 0);
            stands("V " + p[0], page(2, 1).farDown(p[0]), 0, p[0], 0, p[1]);
        }
        // At H = -250, HH is -1073709056: R(500) is in reach, R(501) is not, while R(250) and R(251) both are.
        FileMaker file = pageWithFont(65535, 1, 65535).raw(137).number(-250, 2);
        standsWithFont("R(500)", file.copy().raw(65), 500, 250, 0, 1073709056, 0);
        standsWithFont("R(501)", file.copy().raw(65), 501, 251, 0, 1078003890, 0);
    }

    private static void tooSmallForRounded() {
        DUE.sentence("((int) of what is too .. small is the .. least int): R is its negative, the greatest one's");
        int[][] places = {{-1073741822, LEAST + 4}, {-1073741823, LEAST + 2}, {-1073741824, GREATEST},
            {-1073741825, GREATEST}, {LEAST, GREATEST}};
        for (int[] p : places) {
            stands("H " + p[0], page(2, 1).farRight(p[0]), p[0], 0, p[1], 0);
            stands("V " + p[0], page(2, 1).farDown(p[0]), 0, p[0], 0, p[1]);
        }
        FileMaker file = pageWithFont(65535, 1, 65535).raw(137).number(250, 2);
        standsWithFont("R(-500)", file.copy().raw(65), -500, -250, 0, -1073709056, 0);
        standsWithFont("R(-501)", file.copy().raw(65), -501, -251, 0, -1078003890, 0);
    }

    /** t is 2147483646.96 for 60378 * 63.97 * 556, and 2147483647.335 for 63796 / 16 * 64.194 * 8390. */
    private static void tooGreatForRoundedUp() {
        DUE.sentence("((int) of what is too great .. is the greatest .. int): C, 1 more than that wraps");
        roundedUp(60378, 1, 63970, 555, 2143621267);
        roundedUp(60378, 1, 63970, 556, GREATEST);
        roundedUp(60378, 1, 63970, 557, LEAST);
        roundedUp(63796, 16, 64194, 8389, 2147227690);
        roundedUp(63796, 16, 64194, 8390, LEAST);
        roundedUp(65535, 1, 65535, 32767, LEAST);
    }
}
