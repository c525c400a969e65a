import java.util.NoSuchElementException;

/** Reads pages that are written as bytes; ../shared/DOC.md says what each call promises. */
public final class PageReader {
    private static final int RIGHT_FILE = -1;

    private final Bytes file;
    private final Widths widths;
    private final Pixels pixels;
    private final Pages pages;
    private final Reading reading;
    private int wrongAddress;

    public PageReader() {
        file = new Bytes();
        widths = new Widths();
        pixels = new Pixels();
        pages = new Pages();
        reading = new Reading(file, widths, pixels, pages);
        wrongAddress = RIGHT_FILE;
    }

    public int add(long bytes, int n) throws IllegalArgumentException, IllegalStateException {
        if (n < 1 || n > 8) {
            throw new IllegalArgumentException("n is not 1 .. 8");
        }
        if (!file.append(bytes, n)) {
            throw new IllegalStateException("the file would have more than 600 bytes");
        }
        return file.count();
    }

    public int cut(int n) throws IllegalArgumentException {
        if (!file.drop(n)) {
            throw new IllegalArgumentException("n is not 0 .. the number of bytes");
        }
        return file.count();
    }

    public boolean width(int font, int character, int width) {
        return widths.change(font, character, width);
    }

    public int read() throws UnsupportedOperationException {
        wrongAddress = reading.firstWrong();
        if (wrongAddress != RIGHT_FILE) {
            pages.clear();
            pixels.clear();
            throw new UnsupportedOperationException("the file is not right");
        }
        return pages.count();
    }

    public int wrong() {
        return wrongAddress;
    }

    public int page(int p, int what) throws NoSuchElementException {
        if (!pages.has(p) || what < 0 || what > 2) {
            throw new NoSuchElementException("no such page or part of it");
        }
        if (what == 0) {
            return pages.numberOf(p);
        }
        return what == 1 ? pages.itemsOf(p) : pages.addressOf(p);
    }

    public int item(int p, int k, int what) throws NoSuchElementException {
        if (!pages.hasItem(p, k) || what < 0 || what > 8) {
            throw new NoSuchElementException("no such item or part of it");
        }
        if (what < Pages.PARTS) {
            return pages.partOf(p, k, what);
        }
        if (pages.partOf(p, k, Pages.KIND) != Pages.RULE) {
            return 0;
        }
        return pixels.roundedUp(pages.partOf(p, k, what == 7 ? Pages.RULE_WIDTH : Pages.FONT_OR_HEIGHT));
    }

    public double conv() {
        return pixels.factor();
    }

    public int most(int what) {
        switch (what) {
            case 0:
                return pages.greatest(Pages.ITEM_H);
            case 1:
                return pages.greatest(Pages.ITEM_V);
            case 2:
                return pages.least(Pages.ITEM_H);
            case 3:
                return pages.least(Pages.ITEM_V);
            default:
                return 0;
        }
    }

    /** The bytes that commands begin with. */
    private static final class Op {
        static final int PUT = 128;
        static final int SET_RULE = 129;
        static final int PUT_RULE = 130;
        static final int NOTHING = 131;
        static final int BEGIN = 132;
        static final int END = 133;
        static final int PUSH = 134;
        static final int POP = 135;
        static final int RIGHT = 136;
        static final int W = 139;
        static final int X = 143;
        static final int DOWN = 147;
        static final int Y = 150;
        static final int Z = 154;
        static final int FONT = 158;
        static final int DEFINE = 166;
        static final int START = 167;
        static final int LAST = 168;
        static final int CLOSE = 169;

        private static final int[] BYTES_BEHIND = {
            1, 4, 4, 0, 4, 0, 0, 0,
            1, 2, 3,
            0, 1, 2, 3, 0, 1, 2, 3,
            1, 2, 3,
            0, 1, 2, 3, 0, 1, 2, 3,
            0, 0, 0, 0, 0, 0, 0, 0,
            5, 7, 11, 3
        };

        private Op() {
        }

        static int bytesBehind(int op) {
            return op < PUT || op > CLOSE ? 0 : BYTES_BEHIND[op - PUT];
        }
    }

    /** The file. */
    private static final class Bytes {
        private static final int MOST = 600;

        private final int[] row;
        private int count;

        Bytes() {
            row = new int[MOST];
            count = 0;
        }

        int count() {
            return count;
        }

        boolean append(long bytes, int n) {
            if (n < 0 || n > 8 || count + n > MOST) {
                return false;
            }
            for (int i = 0; i < n; i++) {
                row[count + i] = (int) (bytes >>> (8 * i)) & 255;
            }
            count += n;
            return true;
        }

        boolean drop(int n) {
            if (n < 0 || n > count) {
                return false;
            }
            count -= n;
            return true;
        }

        int at(int address) {
            return address < 0 || address >= count ? 0 : row[address];
        }

        int number(int address, int n) {
            int number = 0;
            for (int i = 0; i < n; i++) {
                number = number << 8 | at(address + i);
            }
            return number;
        }

        int signedNumber(int address, int n) {
            int unused = 32 - 8 * n;
            return number(address, n) << unused >> unused;
        }

        /** 0 when no command begins there, or it is not whole. */
        int commandLength(int address) {
            if (at(address) > Op.CLOSE) {
                return 0;
            }
            int length = 1 + Op.bytesBehind(at(address));
            return address + length <= count ? length : 0;
        }

        boolean endsWell(int address) {
            if (count - address < 4 || count % 4 != 0) {
                return false;
            }
            for (int i = address; i < count; i++) {
                if (at(i) != 223) {
                    return false;
                }
            }
            return true;
        }
    }

    /** The widths of the characters in the fonts. */
    private static final class Widths {
        private static final int CHARACTERS = 128;
        private static final int GREATEST = 30000;

        private final int[] row;

        Widths() {
            row = new int[Fonts.MOST * CHARACTERS];
        }

        private static boolean fits(int font, int character) {
            return font >= 0 && font < Fonts.MOST && character >= 0 && character < CHARACTERS;
        }

        boolean change(int font, int character, int width) {
            if (!fits(font, character) || width < -GREATEST || width > GREATEST) {
                return false;
            }
            row[font * CHARACTERS + character] = width;
            return true;
        }

        int of(int font, int character) {
            return fits(font, character) ? row[font * CHARACTERS + character] : 0;
        }
    }

    /** From units to pixels. */
    private static final class Pixels {
        private double factor;

        Pixels() {
            factor = 0;
        }

        void clear() {
            factor = 0;
        }

        boolean become(int num, int den, int mag) {
            if (num < 1 || den < 1 || mag < 1) {
                return false;
            }
            factor = ((double) num / (double) den) * ((double) mag / 1000.0);
            return true;
        }

        double factor() {
            return factor;
        }

        int rounded(int n) {
            double t = factor * n;
            return t >= 0 ? (int) (t + 0.5) : -(int) (0.5 - t);
        }

        int roundedUp(int n) {
            double t = factor * n;
            int below = (int) t;
            return below < t ? below + 1 : below;
        }
    }

    /** The fonts that are defined ahead of LAST, and which of them are again behind it. */
    private static final class Fonts {
        static final int MOST = 8;

        private static final int UNKNOWN = 0;
        private static final int AHEAD = 1;
        private static final int AHEAD_AND_BEHIND = 2;

        private final int[] states;
        private final int[] marks;
        private final int[] scales;

        Fonts() {
            states = new int[MOST];
            marks = new int[MOST];
            scales = new int[MOST];
        }

        void clear() {
            for (int i = 0; i < MOST; i++) {
                states[i] = UNKNOWN;
            }
        }

        boolean knows(int font) {
            return font >= 0 && font < MOST && states[font] != UNKNOWN;
        }

        int scaleOf(int font) {
            return knows(font) ? scales[font] : 0;
        }

        boolean defineAhead(int font, int mark, int scale) {
            if (font < 0 || font >= MOST || states[font] != UNKNOWN) {
                return false;
            }
            states[font] = AHEAD;
            marks[font] = mark;
            scales[font] = scale;
            return true;
        }

        boolean defineBehind(int font, int mark, int scale) {
            if (font < 0 || font >= MOST || states[font] != AHEAD) {
                return false;
            }
            if (marks[font] != mark || scales[font] != scale) {
                return false;
            }
            states[font] = AHEAD_AND_BEHIND;
            return true;
        }

        boolean allAreBehind() {
            for (int i = 0; i < MOST; i++) {
                if (states[i] == AHEAD) {
                    return false;
                }
            }
            return true;
        }
    }

    /** The place in a page, the font chosen there, and the stack of places. */
    private static final class Place {
        static final int H = 0;
        static final int V = 1;
        static final int HH = 2;
        static final int VV = 3;
        static final int W = 4;
        static final int X = 5;
        static final int Y = 6;
        static final int Z = 7;

        private static final int PARTS = 8;
        private static final int MOST_KEPT = 20;
        private static final int MOST_DRIFT = 2;
        private static final int NO_FONT = -1;

        private final Pixels pixels;
        private final int[] now;
        private final int[] kept;
        private int keptCount;
        private int depth;
        private int font;
        private int scale;

        Place(Pixels pixels) {
            this.pixels = pixels;
            now = new int[PARTS];
            kept = new int[PARTS * MOST_KEPT];
            keptCount = 0;
            depth = 0;
            font = NO_FONT;
            scale = 0;
        }

        void clear() {
            depth = 0;
            begin();
        }

        void begin() {
            for (int i = 0; i < PARTS; i++) {
                now[i] = 0;
            }
            keptCount = 0;
            font = NO_FONT;
            scale = 0;
        }

        int part(int part) {
            return part < 0 || part >= PARTS ? 0 : now[part];
        }

        boolean nothingIsKept() {
            return keptCount == 0;
        }

        /** The most places that were kept at a time since clear(). */
        int depth() {
            return depth;
        }

        boolean hasFont() {
            return font != NO_FONT;
        }

        int font() {
            return font;
        }

        void choose(int font, int scale) {
            this.font = font;
            this.scale = scale;
        }

        boolean push() {
            if (keptCount >= MOST_KEPT) {
                return false;
            }
            System.arraycopy(now, 0, kept, keptCount * PARTS, PARTS);
            keptCount++;
            depth = Math.max(depth, keptCount);
            return true;
        }

        boolean pop() {
            if (keptCount <= 0) {
                return false;
            }
            keptCount--;
            System.arraycopy(kept, keptCount * PARTS, now, 0, PARTS);
            return true;
        }

        /** W, X, Y or Z, once a NEW command of it has changed it. */
        int stride(int part, boolean isNew, int move) {
            if (part < W || part > Z) {
                return 0;
            }
            if (isNew) {
                now[part] = move;
            }
            return now[part];
        }

        void moveRight(int n) {
            int sixth = scale / 6;
            boolean isSmall = hasFont() && n < sixth && n > -4 * sixth;
            int dots = isSmall ? now[HH] + pixels.rounded(n) : pixels.rounded(now[H] + n);
            now[H] += n;
            now[HH] = held(dots, now[H]);
        }

        void moveDown(int n) {
            int limit = 4 * (scale / 5);
            boolean isSmall = hasFont() && n < limit && n > -limit;
            int dots = isSmall ? now[VV] + pixels.rounded(n) : pixels.rounded(now[V] + n);
            now[V] += n;
            now[VV] = held(dots, now[V]);
        }

        void advance(int units, int dots) {
            now[H] += units;
            now[HH] = held(now[HH] + dots, now[H]);
        }

        /** The second test sees what the first one left: the two bounds can change sides where they wrap. */
        private int held(int dots, int units) {
            int exact = pixels.rounded(units);
            int near = dots > exact + MOST_DRIFT ? exact + MOST_DRIFT : dots;
            return near < exact - MOST_DRIFT ? exact - MOST_DRIFT : near;
        }
    }

    /** The pages and items that were read. */
    private static final class Pages {
        static final int KIND = 0;
        static final int FONT_OR_HEIGHT = 1;
        static final int ITEM_H = 2;
        static final int ITEM_V = 3;
        static final int ITEM_HH = 4;
        static final int ITEM_VV = 5;
        static final int RULE_WIDTH = 6;
        static final int PARTS = 7;
        static final int RULE = 128;

        private static final int MOST = 12;
        private static final int MOST_ITEMS = 200;

        private final int[] numbers;
        private final int[] addresses;
        private final int[] firstItems;
        private final int[] itemCounts;
        private final int[] items;
        private int count;
        private int itemCount;

        Pages() {
            numbers = new int[MOST];
            addresses = new int[MOST];
            firstItems = new int[MOST];
            itemCounts = new int[MOST];
            items = new int[MOST_ITEMS * PARTS];
            count = 0;
            itemCount = 0;
        }

        void clear() {
            count = 0;
            itemCount = 0;
        }

        int count() {
            return count;
        }

        boolean begin(int number, int address) {
            if (count >= MOST) {
                return false;
            }
            numbers[count] = number;
            addresses[count] = address;
            firstItems[count] = itemCount;
            itemCounts[count] = 0;
            count++;
            return true;
        }

        boolean place(int kind, int fontOrHeight, int ruleWidth, Place place) {
            if (count == 0 || itemCount >= MOST_ITEMS) {
                return false;
            }
            int from = itemCount * PARTS;
            items[from + KIND] = kind;
            items[from + FONT_OR_HEIGHT] = fontOrHeight;
            items[from + ITEM_H] = place.part(Place.H);
            items[from + ITEM_V] = place.part(Place.V);
            items[from + ITEM_HH] = place.part(Place.HH);
            items[from + ITEM_VV] = place.part(Place.VV);
            items[from + RULE_WIDTH] = ruleWidth;
            itemCount++;
            itemCounts[count - 1]++;
            return true;
        }

        boolean has(int p) {
            return p >= 0 && p < count;
        }

        boolean hasItem(int p, int k) {
            return has(p) && k >= 0 && k < itemCounts[p];
        }

        int numberOf(int p) {
            return has(p) ? numbers[p] : 0;
        }

        int itemsOf(int p) {
            return has(p) ? itemCounts[p] : 0;
        }

        int addressOf(int p) {
            return has(p) ? addresses[p] : 0;
        }

        int partOf(int p, int k, int part) {
            if (!hasItem(p, k) || part < 0 || part >= PARTS) {
                return 0;
            }
            return items[(firstItems[p] + k) * PARTS + part];
        }

        int greatest(int part) {
            return extreme(part, true);
        }

        int least(int part) {
            return extreme(part, false);
        }

        private int extreme(int part, boolean isGreatest) {
            if (itemCount == 0 || part < 0 || part >= PARTS) {
                return 0;
            }
            int best = items[part];
            for (int i = 1; i < itemCount; i++) {
                int other = items[i * PARTS + part];
                best = isGreatest ? Math.max(best, other) : Math.min(best, other);
            }
            return best;
        }
    }

    /** Goes through the file, command by command. */
    private static final class Reading {
        private static final int VERSION = 2;
        private static final int UNITS_OF_START = 2;
        private static final int BYTES_OF_UNITS = 6;
        private static final int NOWHERE = 65535;
        private static final int GREATEST_CHARACTER = 127;

        private static final int AT_START = 0;
        private static final int OUTSIDE_PAGES = 1;
        private static final int IN_PAGE = 2;
        private static final int BEHIND_LAST = 3;
        private static final int CLOSED = 4;

        private final Bytes file;
        private final Widths widths;
        private final Pixels pixels;
        private final Pages pages;
        private final Fonts fonts;
        private final Place place;
        private int phase;
        private int beginAddress;
        private int lastAddress;

        Reading(Bytes file, Widths widths, Pixels pixels, Pages pages) {
            this.file = file;
            this.widths = widths;
            this.pixels = pixels;
            this.pages = pages;
            fonts = new Fonts();
            place = new Place(pixels);
            phase = AT_START;
            beginAddress = NOWHERE;
            lastAddress = NOWHERE;
        }

        private void clear() {
            pixels.clear();
            pages.clear();
            fonts.clear();
            place.clear();
            phase = AT_START;
            beginAddress = NOWHERE;
            lastAddress = NOWHERE;
        }

        /** The address of the first wrong command, or RIGHT_FILE. */
        int firstWrong() {
            clear();
            int address = 0;
            for (int i = 0; i < Bytes.MOST && address < file.count() && phase != CLOSED; i++) {
                int length = file.commandLength(address);
                if (length == 0) {
                    return address;
                }
                boolean isRight = phase == IN_PAGE ? obeyInPage(address) : obeyOutside(address);
                if (!isRight) {
                    return address;
                }
                address += length;
            }
            return phase == CLOSED ? RIGHT_FILE : file.count();
        }

        private boolean obeyOutside(int address) {
            int op = file.at(address);
            if (phase == AT_START) {
                return op == Op.START && start(address);
            }
            if (op == Op.NOTHING) {
                return true;
            }
            if (op == Op.DEFINE) {
                return define(address);
            }
            if (phase == BEHIND_LAST) {
                return op == Op.CLOSE && close(address);
            }
            return op == Op.BEGIN ? begin(address) : op == Op.LAST && last(address);
        }

        private boolean obeyInPage(int address) {
            int op = file.at(address);
            switch (op) {
                case Op.PUT:
                    return character(file.number(address + 1, 1), false);
                case Op.SET_RULE:
                    return rule(address, true);
                case Op.PUT_RULE:
                    return rule(address, false);
                case Op.NOTHING:
                    return true;
                case Op.END:
                    return end();
                case Op.PUSH:
                    return place.push();
                case Op.POP:
                    return place.pop();
                case Op.DEFINE:
                    return define(address);
                default:
                    break;
            }
            if (op < Op.PUT) {
                return character(op, true);
            }
            return op >= Op.FONT && op < Op.DEFINE ? choose(op - Op.FONT) : move(op, address);
        }

        private boolean start(int address) {
            phase = OUTSIDE_PAGES;
            return file.number(address + 1, 1) == VERSION
                && pixels.become(file.number(address + 2, 2), file.number(address + 4, 2), file.number(address + 6, 2));
        }

        private boolean begin(int address) {
            if (file.number(address + 3, 2) != beginAddress) {
                return false;
            }
            beginAddress = address;
            place.begin();
            phase = IN_PAGE;
            return pages.begin(file.signedNumber(address + 1, 2), address);
        }

        private boolean end() {
            phase = OUTSIDE_PAGES;
            return place.nothingIsKept();
        }

        private boolean define(int address) {
            int font = file.number(address + 1, 1);
            int mark = file.number(address + 2, 2);
            int scale = file.number(address + 4, 2);
            return phase == BEHIND_LAST ? fonts.defineBehind(font, mark, scale) : fonts.defineAhead(font, mark, scale);
        }

        private boolean last(int address) {
            lastAddress = address;
            phase = BEHIND_LAST;
            return file.number(address + 1, 2) == beginAddress
                && hasUnitsOfStart(address + 3)
                && file.number(address + 9, 1) == place.depth()
                && file.number(address + 10, 2) == pages.count();
        }

        private boolean hasUnitsOfStart(int address) {
            for (int i = 0; i < BYTES_OF_UNITS; i++) {
                if (file.at(address + i) != file.at(UNITS_OF_START + i)) {
                    return false;
                }
            }
            return true;
        }

        private boolean close(int address) {
            phase = CLOSED;
            return file.number(address + 1, 2) == lastAddress
                && file.number(address + 3, 1) == VERSION
                && fonts.allAreBehind()
                && file.endsWell(address + 4);
        }

        private boolean choose(int font) {
            if (!fonts.knows(font)) {
                return false;
            }
            place.choose(font, fonts.scaleOf(font));
            return true;
        }

        private boolean character(int character, boolean moves) {
            if (character > GREATEST_CHARACTER || !place.hasFont()) {
                return false;
            }
            if (!pages.place(character, place.font(), 0, place)) {
                return false;
            }
            if (moves) {
                int width = widths.of(place.font(), character);
                place.advance(width, pixels.rounded(width));
            }
            return true;
        }

        private boolean rule(int address, boolean moves) {
            int height = file.signedNumber(address + 1, 2);
            int width = file.signedNumber(address + 3, 2);
            if (height > 0 && width > 0 && !pages.place(Pages.RULE, height, width, place)) {
                return false;
            }
            if (moves) {
                place.advance(width, width > 0 ? pixels.roundedUp(width) : pixels.rounded(width));
            }
            return true;
        }

        private boolean move(int op, int address) {
            if (op < Op.RIGHT || op >= Op.FONT) {
                return false;
            }
            int n = file.signedNumber(address + 1, Op.bytesBehind(op));
            if (op < Op.W) {
                place.moveRight(n);
            } else if (op < Op.X) {
                place.moveRight(place.stride(Place.W, op != Op.W, n));
            } else if (op < Op.DOWN) {
                place.moveRight(place.stride(Place.X, op != Op.X, n));
            } else if (op < Op.Y) {
                place.moveDown(n);
            } else if (op < Op.Z) {
                place.moveDown(place.stride(Place.Y, op != Op.Y, n));
            } else {
                place.moveDown(place.stride(Place.Z, op != Op.Z, n));
            }
            return true;
        }
    }
}
