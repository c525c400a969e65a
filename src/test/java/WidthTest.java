/** Promise 4: width. */
public final class WidthTest {
    private static final Due DUE = new Due("WidthTest");
    private static final int LEAST = Integer.MIN_VALUE;
    private static final int GREATEST = Integer.MAX_VALUE;

    public static void main(String[] args) {
        fonts();
        characters();
        widths();
        refusedOnesChangeNothing();
        eachFontAndCharacter();
        widthsCountWhenRead();
        DUE.end();
    }

    private static void answers(boolean want, int[]... widths) {
        PageReader x = new PageReader();
        for (int[] w : widths) {
            DUE.is("width(" + w[0] + ", " + w[1] + ", " + w[2] + ")", x.width(w[0], w[1], w[2]), want);
        }
    }

    private static void fonts() {
        DUE.sentence("in a font (0 .. 7). False when one is not so");
        answers(true, new int[] {0, 0, 1}, new int[] {7, 0, 1}, new int[] {0, 127, 1}, new int[] {7, 127, 1});
        for (int character : new int[] {0, 64, 127}) {
            for (int font : new int[] {-1, 8, 9, 128, LEAST, GREATEST}) {
                answers(false, new int[] {font, character, 1});
            }
        }
    }

    private static void characters() {
        DUE.sentence("of a character (0 .. 127). False when one is not so");
        for (int font = 0; font < 8; font++) {
            answers(true, new int[] {font, 0, 1}, new int[] {font, 127, 1});
            for (int character : new int[] {-1, -128, 128, 129, 255, LEAST, GREATEST}) {
                answers(false, new int[] {font, character, 1});
            }
        }
        answers(false, new int[] {8, 128, 0}, new int[] {-1, -1, 0});
    }

    private static void widths() {
        DUE.sentence("or width is not -30000 .. 30000");
        for (int width : new int[] {-30000, -29999, -1, 0, 1, 29999, 30000}) {
            answers(true, new int[] {0, 0, width}, new int[] {7, 127, width});
        }
        for (int width : new int[] {-30001, 30001, -32768, 32767, LEAST, GREATEST}) {
            answers(false, new int[] {0, 0, width}, new int[] {7, 127, width});
        }
    }

    /** H behind character 65 of font 0, whose width is set before. */
    private static void keeps(String what, PageReader x, int width) {
        FileMaker.pageWithFont(1, 1).raw(65).dot().endWithFont(0).into(x);
        DUE.reads(what, x, 1);
        DUE.stands(what, x, 0, 1, width, 0, width, 0);
    }

    private static void refusedOnesChangeNothing() {
        DUE.sentence("False: a refused call");
        for (int width : new int[] {-30001, 30001, LEAST, GREATEST}) {
            PageReader x = new PageReader();
            DUE.is("width(0, 65, 12)", x.width(0, 65, 12), true);
            DUE.is("width(0, 65, " + width + ")", x.width(0, 65, width), false);
            keeps("behind a refused width", x, 12);
        }
        for (int[] w : new int[][] {{1, -63}, {-1, 193}, {0, 193}, {8, 65}}) {
            PageReader x = new PageReader();
            x.width(0, 65, 12);
            DUE.is("width(" + w[0] + ", " + w[1] + ", 9)", x.width(w[0], w[1], 9), false);
            keeps("behind a refused character", x, 12);
        }
        for (int width : new int[] {-30000, 30000, 0}) {
            PageReader x = new PageReader();
            x.width(0, 65, 12);
            DUE.is("width(0, 65, " + width + ")", x.width(0, 65, width), true);
            keeps("width " + width, x, width);
        }
    }

    private static void eachFontAndCharacter() {
        DUE.sentence("The WIDTH of a character in a font: of no other one");
        FileMaker file = new FileMaker().start(1, 1, 1000).define(0, 0, 0).define(1, 0, 0).define(7, 0, 0).begin(0);
        file.raw(158, 0, 127, 159, 0, 127, 165, 0, 127, 5).end().last(0);
        file.define(0, 0, 0).define(1, 0, 0).define(7, 0, 0).close();
        PageReader x = file.reader();
        x.width(0, 0, 1);
        x.width(0, 127, 20);
        x.width(1, 0, 300);
        x.width(1, 127, -4000);
        x.width(7, 0, 30000);
        x.width(7, 127, -30000);
        x.width(0, 0, 30001);
        x.width(0, 128, 9);
        x.width(1, -1, 9);
        x.width(8, 0, 9);
        DUE.reads("widths", x, 1);
        int[] h = {0, 1, 21, 321, -3679, 26321, -3679};
        for (int k = 0; k < h.length; k++) {
            DUE.is("H of item " + k, x.item(0, k, 2), h[k]);
            DUE.is("HH of item " + k, x.item(0, k, 4), h[k]);
        }
    }

    private static void widthsCountWhenRead() {
        DUE.sentence("The WIDTH of a character: what was read has the one of then");
        PageReader x = FileMaker.pageWithFont(1, 1).raw(65, 65).endWithFont(0).reader();
        x.width(0, 65, 7);
        DUE.reads("width 7", x, 1);
        x.width(0, 65, 8);
        DUE.stands("width 7, changed behind read()", x, 0, 1, 7, 0, 7, 0);
        DUE.reads("width 8", x, 1);
        DUE.stands("width 8", x, 0, 1, 8, 0, 8, 0);
        x.cut(x.cut(0));
        DUE.refusesAt("an empty file", x, 0);
        FileMaker.pageWithFont(1, 1).raw(65, 65).endWithFont(0).into(x);
        DUE.reads("width 8 behind a refused file", x, 1);
        DUE.stands("width 8 behind a refused file", x, 0, 1, 8, 0, 8, 0);
    }
}
