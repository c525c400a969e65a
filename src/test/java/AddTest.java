/** Promise 2: add. */
public final class AddTest {
    public static void main(String[] args) {
        Due due = new Due("AddTest");
        wrongNumbers(due);
        lowestByteFirst(due);
        limit(due);
        whatWasReadStays(due);
        due.end();
    }

    private static void wrongNumbers(Due due) {
        PageReader x = new PageReader();
        int[] wrong = {0, 9, -1, Integer.MIN_VALUE, Integer.MAX_VALUE};
        for (int n : wrong) {
            due.refuses("add(1, " + n + ")", () -> x.add(1, n), IllegalArgumentException.class);
        }
        due.is("cut(0) behind refused ones", x.cut(0), 0);
        int sum = 0;
        for (int n = 1; n <= 8; n++) {
            sum += n;
            due.is("add(-1, " + n + ")", x.add(-1, n), sum);
        }
    }

    private static void lowestByteFirst(Due due) {
        byte[] file = {(byte) 167, 2, 0, 1, 0, 1, 3, (byte) 232, (byte) 168, -1, -1, 0, 1, 0, 1, 3, (byte) 232, 0, 0, 0,
            (byte) 169, 0, 8, 2, (byte) 223, (byte) 223, (byte) 223, (byte) 223};
        for (int n = 1; n <= 7; n++) {
            PageReader x = new PageReader();
            for (int from = 0; from < file.length; from += n) {
                int part = Math.min(n, file.length - from);
                long packed = -1;
                for (int i = part - 1; i >= 0; i--) {
                    packed = packed << 8 | file[from + i] & 255;
                }
                due.is("add of " + part, x.add(packed, part), from + part);
            }
            due.reads("a file in parts of " + n, x, 0);
        }
    }

    private static void limit(Due due) {
        PageReader x = new PageReader();
        for (int i = 1; i <= 74; i++) {
            due.is("add", x.add(131, 8), 8 * i);
        }
        due.is("add(0, 1)", x.add(0, 1), 593);
        due.refuses("add(0, 8) to 593", () -> x.add(0, 8), IllegalStateException.class);
        due.is("add(0, 7) to 593", x.add(0, 7), 600);
        due.refuses("add(0, 1) to 600", () -> x.add(0, 1), IllegalStateException.class);
        due.refuses("add(0, 9) to 600", () -> x.add(0, 9), IllegalArgumentException.class);
        due.refuses("add(0, 0) to 600", () -> x.add(0, 0), IllegalArgumentException.class);
        due.is("cut(0)", x.cut(0), 600);
        due.is("cut(3)", x.cut(3), 597);
        due.is("add(0, 3)", x.add(0, 3), 600);
    }

    private static void whatWasReadStays(Due due) {
        FileMaker file = FileMaker.pageWithFont(3, 2).raw(136, 4, 65).endWithFont(0);
        PageReader x = due.reads("before add", file, 1);
        x.add(0, 1);
        due.is("wrong() behind add", x.wrong(), -1);
        due.is("page(0, 1) behind add", x.page(0, 1), 1);
        due.stands("behind add", x, 0, 0, 4, 0, 6, 0);
        due.isExactly("conv() behind add", x.conv(), 1.5);
        due.is("most(0) behind add", x.most(0), 4);
        // CLOSE stands behind 20 bytes of pageWithFont, 3 of the page, END, LAST and DEFINE.
        due.refusesAt("behind add", x, 20 + 3 + 1 + 12 + 6);
    }
}
