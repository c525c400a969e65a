/** Promise 9: conv. */
public final class ConvTest {
    public static void main(String[] args) {
        Due due = new Due("ConvTest");
        int[][] units = {{1, 1, 1000}, {3, 2, 1000}, {1, 3, 1}, {7, 5, 1200}, {65535, 1, 65535}, {1, 65535, 1},
            {25400, 473, 300}, {10, 3, 300}, {49, 10, 700}};
        for (int[] u : units) {
            FileMaker file = new FileMaker().start(u[0], u[1], u[2]).last(0).close();
            PageReader x = due.reads("units", file, 0);
            double want = ((double) u[0] / u[1]) * ((double) u[2] / 1000.0);
            due.isExactly("conv() of " + u[0] + " / " + u[1] + " * " + u[2], x.conv(), want);
        }
        // Known numbers beside the formula, so that the same slip in both does not pass.
        due.isExactly("3 / 2 * 1", conv(due, 3, 2, 1000), 1.5);
        due.isExactly("65535 * 65.535", conv(due, 65535, 1, 65535), 4294836.225);
        due.isExactly("1 / 4 * 0.5", conv(due, 1, 4, 500), 0.125);
        nothingRead(due);
        due.end();
    }

    private static double conv(Due due, int num, int den, int mag) {
        return due.reads("units", new FileMaker().start(num, den, mag).last(0).close(), 0).conv();
    }

    private static void nothingRead(Due due) {
        PageReader x = FileMaker.withoutPages().reader();
        due.isExactly("conv() before read()", x.conv(), 0.0);
        due.reads("right", x, 0);
        due.isExactly("conv() behind read()", x.conv(), 1.0);
        x.cut(1);
        due.isExactly("conv() behind cut", x.conv(), 1.0);
        due.refusesAt("cut", x, 20);
    }
}
