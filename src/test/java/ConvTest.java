/** Promise 9: conv. */
public final class ConvTest {
    private static final Due DUE = new Due("ConvTest");

    public static void main(String[] args) {
        convOfWhatWasRead();
        nothingWasRead();
        DUE.end();
    }

    private static void convOfWhatWasRead() {
        DUE.sentence("CONV of what was read");
        int[][] units = {{1, 1, 1000}, {3, 2, 1000}, {1, 3, 1}, {7, 5, 1200}, {65535, 1, 65535}, {1, 65535, 1},
            {25400, 473, 300}, {10, 3, 300}, {49, 10, 700}};
        for (int[] u : units) {
            double want = ((double) u[0] / u[1]) * ((double) u[2] / 1000.0);
            DUE.isExactly("conv() of " + u[0] + " / " + u[1] + " * " + u[2], conv(u[0], u[1], u[2]), want);
        }
        // Known numbers beside the formula, so that the same slip in both does not pass.
        DUE.isExactly("3 / 2 * 1", conv(3, 2, 1000), 1.5);
        DUE.isExactly("65535 * 65.535", conv(65535, 1, 65535), 4294836.225);
        DUE.isExactly("1 / 4 * 0.5", conv(1, 4, 500), 0.125);
        DUE.isExactly("1 / 65535 * 0.001", conv(1, 65535, 1), (1.0 / 65535.0) * 0.001);
        latestRead();
    }

    private static double conv(int num, int den, int mag) {
        return DUE.reads("units", new FileMaker().start(num, den, mag).last(0).close(), 0).conv();
    }

    private static void latestRead() {
        PageReader x = DUE.reads("1.5", new FileMaker().start(3, 2, 1000).last(0).close(), 0);
        x.cut(28);
        new FileMaker().start(1, 4, 1000).last(0).close().into(x);
        DUE.isExactly("conv() ahead of the second read()", x.conv(), 1.5);
        DUE.reads("0.25", x, 0);
        DUE.isExactly("conv() behind it", x.conv(), 0.25);
    }

    private static void nothingWasRead() {
        DUE.sentence("0 when nothing was");
        DUE.isExactly("conv() of a new object", new PageReader().conv(), 0.0);
        PageReader x = FileMaker.withoutPages().reader();
        DUE.isExactly("conv() before read()", x.conv(), 0.0);
        DUE.reads("right", x, 0);
        DUE.isExactly("conv() behind read()", x.conv(), 1.0);
        x.cut(1);
        DUE.isExactly("conv() behind cut", x.conv(), 1.0);
        DUE.refusesAt("wrong at CLOSE, behind a right START", x, 20);
        x.cut(20);
        DUE.refusesAt("START is not whole", x, 0);
    }
}
