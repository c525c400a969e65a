/** Reads a file of one page, on which a character and a rule stand. */
public final class ReadExample {
    private static final int[] FILE = {
        167, 2, 0, 3, 0, 2, 3, 232,              // at 0, START: NUM 3, DEN 2, MAG 1000
        166, 0, 0, 7, 0, 60,                     // at 8, DEFINE: font 0 has MARK 7 and SCALE 60
        132, 0, 1, 255, 255,                     // at 14, BEGIN: page 1, no BEGIN before it
        158,                                     // at 19, FONT 0
        65,                                      // at 20, SET 65
        136, 5,                                  // at 21, RIGHT by 5
        130, 0, 4, 0, 9,                         // at 23, PUT RULE: 4 high, 9 wide
        133,                                     // at 28, END
        168, 0, 14, 0, 3, 0, 2, 3, 232, 0, 0, 1, // at 29, LAST: BEGIN at 14, units of START, DEPTH 0, 1 page
        166, 0, 0, 7, 0, 60,                     // at 41, DEFINE: font 0 once more
        169, 0, 29, 2,                           // at 47, CLOSE: LAST at 29
        223, 223, 223, 223, 223                  // 56 bytes in all, a multiple of 4
    };

    public static void main(String[] args) {
        PageReader reader = new PageReader();
        for (int b : FILE) {
            reader.add(b, 1);
        }
        reader.width(0, 65, 30);
        System.out.println("pages: " + reader.read() + ", wrong at: " + reader.wrong() + ", CONV: " + reader.conv());
        System.out.println("page number: " + reader.page(0, 0) + ", items: " + reader.page(0, 1)
            + ", BEGIN at: " + reader.page(0, 2));
        for (int k = 0; k < reader.page(0, 1); k++) {
            StringBuilder line = new StringBuilder("item " + k + ":");
            for (int what = 0; what <= 8; what++) {
                line.append(' ').append(reader.item(0, k, what));
            }
            System.out.println(line);
        }
        System.out.println("greatest H: " + reader.most(0) + ", least H: " + reader.most(2));
    }
}
