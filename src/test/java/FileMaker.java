import java.util.Arrays;

/** Makes files for the tests; pointers and counts are right unless a test writes its own. */
final class FileMaker {
    static final int NOWHERE = 65535;

    private int[] bytes = new int[0];
    private int begin = NOWHERE;
    private int last = NOWHERE;
    private int pages = 0;
    private int[] units = {1, 1, 1000};

    int here() {
        return bytes.length;
    }

    FileMaker raw(int... more) {
        int from = bytes.length;
        bytes = Arrays.copyOf(bytes, from + more.length);
        System.arraycopy(more, 0, bytes, from, more.length);
        return this;
    }

    FileMaker times(int n, int... more) {
        for (int i = 0; i < n; i++) {
            raw(more);
        }
        return this;
    }

    FileMaker number(int value, int n) {
        for (int i = n - 1; i >= 0; i--) {
            raw(value >> (8 * i) & 255);
        }
        return this;
    }

    FileMaker start(int num, int den, int mag) {
        units = new int[] {num, den, mag};
        return raw(167, 2).units();
    }

    FileMaker units() {
        return number(units[0], 2).number(units[1], 2).number(units[2], 2);
    }

    FileMaker define(int font, int mark, int scale) {
        return raw(166, font).number(mark, 2).number(scale, 2);
    }

    FileMaker begin(int number) {
        int before = begin;
        begin = here();
        pages++;
        return raw(132).number(number, 2).number(before, 2);
    }

    FileMaker end() {
        return raw(133);
    }

    FileMaker rule(int op, int height, int width) {
        return raw(op).number(height, 2).number(width, 2);
    }

    FileMaker last(int depth) {
        last = here();
        return raw(168).number(begin, 2).units().raw(depth).number(pages, 2);
    }

    FileMaker close() {
        raw(169).number(last, 2).raw(2, 223, 223, 223, 223);
        while (here() % 4 != 0) {
            raw(223);
        }
        return this;
    }

    FileMaker changed(int address, int... to) {
        FileMaker other = new FileMaker().raw(bytes);
        System.arraycopy(to, 0, other.bytes, address, to.length);
        return other;
    }

    /** What is written behind the copy does not change this one. */
    FileMaker copy() {
        FileMaker other = new FileMaker().raw(bytes);
        other.begin = begin;
        other.last = last;
        other.pages = pages;
        other.units = units;
        return other;
    }

    /** NOTHING until the next command has the address. */
    FileMaker nothingsUpTo(int address) {
        return times(address - here(), 131);
    }

    /** From H = 0, by moves too great for any font to make them small. */
    FileMaker farRight(int h) {
        return far(h, 142, 139, 138);
    }

    FileMaker farDown(int v) {
        return far(v, 153, 150, 149);
    }

    private FileMaker far(int to, int newStride, int stride, int move) {
        int step = to < 0 ? -8388608 : 8388607;
        int steps = to / step;
        if (steps > 0) {
            raw(newStride).number(step, 3).times(steps - 1, stride);
        }
        return raw(move).number(to - steps * step, 3);
    }

    /** A small rule, to see where the place is. */
    FileMaker dot() {
        return rule(130, 1, 1);
    }

    FileMaker firstBytes(int n) {
        return new FileMaker().raw(Arrays.copyOf(bytes, n));
    }

    PageReader reader() {
        return into(new PageReader());
    }

    PageReader into(PageReader x) {
        for (int from = 0; from < bytes.length; from += 8) {
            int n = Math.min(8, bytes.length - from);
            long packed = 0;
            for (int i = n - 1; i >= 0; i--) {
                packed = packed << 8 | bytes[from + i];
            }
            x.add(packed, n);
        }
        return x;
    }

    /** One page of CONV num / den whose font 0 has the scale 64, up to the place behind FONT 0. */
    static FileMaker pageWithFont(int num, int den) {
        return new FileMaker().start(num, den, 1000).define(0, 7, 64).begin(1).raw(158);
    }

    FileMaker endWithFont(int depth) {
        return end().last(depth).define(0, 7, 64).close();
    }

    static FileMaker pageWithoutFont(int num, int den, int mag) {
        return new FileMaker().start(num, den, mag).begin(1);
    }

    FileMaker endWithoutFont(int depth) {
        return end().last(depth).close();
    }

    static FileMaker withoutPages() {
        return new FileMaker().start(1, 1, 1000).last(0).close();
    }
}
