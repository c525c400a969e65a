/** Promise 4: width. */
public final class WidthTest {
    public static void main(String[] args) {
        Due due = new Due("WidthTest");
        limits(due);
        eachFontAndCharacter(due);
        widthsCountWhenRead(due);
        due.end();
    }

    private static void limits(Due due) {
        PageReader x = new PageReader();
        int[][] right = {{0, 0, 0}, {7, 127, 30000}, {7, 0, -30000}, {0, 127, 1}};
        for (int[] r : right) {
            due.is("width of " + r[0] + ", " + r[1] + ", " + r[2], x.width(r[0], r[1], r[2]), true);
        }
        int low = Integer.MIN_VALUE;
        int high = Integer.MAX_VALUE;
        int[][] wrong = {{-1, 0, 0}, {8, 0, 0}, {0, -1, 0}, {0, 128, 0}, {0, 0, 30001}, {0, 0, -30001},
            {low, 0, 0}, {high, 0, 0}, {0, low, 0}, {0, high, 0}, {0, 0, low}, {0, 0, high}};
        for (int[] r : wrong) {
            due.is("width of " + r[0] + ", " + r[1] + ", " + r[2], x.width(r[0], r[1], r[2]), false);
        }
    }

    /** A refused width must leave the width, and that of its neighbours, as it was. */
    private static void eachFontAndCharacter(Due due) {
        FileMaker file = new FileMaker().start(1, 1, 1000).define(0, 0, 0).define(1, 0, 0).define(7, 0, 0).begin(0);
        file.raw(158, 0, 127, 159, 0, 127, 165, 0, 127, 5).end().last(0);
        file.define(0, 0, 0).define(1, 0, 0).define(7, 0, 0).close();
        PageReader x = file.reader();
        x.width(0, 0, 1);
        x.width(0, 127, 20);
        x.width(1, 0, 300);
        x.width(1, 127, -4000);
        x.width(7, 0, 30000);
        x.width(7, 127, -30000);
        x.width(0, 0, 30001);
        x.width(0, 128, 9);
        x.width(1, -1, 9);
        x.width(8, 0, 9);
        due.reads("widths", x, 1);
        int[] h = {0, 1, 21, 321, -3679, 26321, -3679};
        for (int k = 0; k < h.length; k++) {
            due.is("H of item " + k, x.item(0, k, 2), h[k]);
            due.is("HH of item " + k, x.item(0, k, 4), h[k]);
        }
    }

    private static void widthsCountWhenRead(Due due) {
        PageReader x = FileMaker.pageWithFont(1, 1).raw(65, 65).endWithFont(0).reader();
        x.width(0, 65, 7);
        due.reads("width 7", x, 1);
        x.width(0, 65, 8);
        due.stands("width 7, changed behind read()", x, 0, 1, 7, 0, 7, 0);
        due.reads("width 8", x, 1);
        due.stands("width 8", x, 0, 1, 8, 0, 8, 0);
    }
}
