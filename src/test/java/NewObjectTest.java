/** Promise 1: a new object. */
public final class NewObjectTest {
    public static void main(String[] args) {
        Due due = new Due("NewObjectTest");
        PageReader x = new PageReader();
        due.is("wrong()", x.wrong(), -1);
        due.isExactly("conv()", x.conv(), 0.0);
        due.hasNone("page(0, 0)", () -> x.page(0, 0));
        due.hasNone("item(0, 0, 0)", () -> x.item(0, 0, 0));
        for (int what = -1; what <= 4; what++) {
            due.is("most(" + what + ")", x.most(what), 0);
        }
        due.is("cut(0)", x.cut(0), 0);
        due.refuses("cut(1)", () -> x.cut(1), IllegalArgumentException.class);
        due.refusesAt("an empty file", x, 0);
        allWidthsAreNothing(due);
        due.end();
    }

    private static void allWidthsAreNothing(Due due) {
        FileMaker file = new FileMaker().start(1, 1, 1000);
        for (int font = 0; font < 8; font++) {
            file.define(font, 0, 10);
        }
        file.begin(0);
        int[] characters = {0, 1, 63, 126, 127};
        for (int font = 0; font < 8; font++) {
            file.raw(158 + font).raw(characters);
        }
        file.end().last(0);
        for (int font = 0; font < 8; font++) {
            file.define(font, 0, 10);
        }
        PageReader x = due.reads("all widths are 0", file.close(), 1);
        for (int k = 0; k < 8 * characters.length; k++) {
            due.stands("all widths are 0", x, 0, k, 0, 0, 0, 0);
        }
    }
}
