import java.util.NoSuchElementException;

/** Mends a file until it is no longer refused. */
public final class RefuseExample {
    public static void main(String[] args) {
        PageReader reader = new PageReader();
        reader.add(0xE8030100010002A7L, 8);      // START, lowest byte first: 167, 2, 0, 1, 0, 1, 3, 232
        reader.add(133, 1);                      // END, outside of a page
        tryToRead(reader);
        System.out.println("bytes left: " + reader.cut(1));
        tryToRead(reader);
        reader.add(0x0301000100FFFFA8L, 8);      // LAST: no BEGIN before it, the units of START,
        reader.add(0x000000E8L, 4);              // DEPTH 0, no pages
        reader.add(0xDFDFDFDF020800A9L, 8);      // CLOSE: LAST at 8; four bytes 223
        tryToRead(reader);
        try {
            reader.page(0, 0);
        } catch (NoSuchElementException e) {
            System.out.println("it has no page 0");
        }
    }

    private static void tryToRead(PageReader reader) {
        try {
            System.out.println("pages: " + reader.read());
        } catch (UnsupportedOperationException e) {
            System.out.println("wrong at: " + reader.wrong());
        }
    }
}
