/** Terms: the stack of places in a page. */
public final class StackTest {
    private static final Due DUE = new Due("StackTest");

    public static void main(String[] args) {
        emptyAtBegin();
        emptyAtEnd();
        popFindsSomething();
        atMost20Places();
        allEightAreKept();
        fontStays();
        lastOneFirst();
        DUE.end();
    }

    private static FileMaker page() {
        return FileMaker.pageWithoutFont(1, 1, 1000);
    }

    private static void emptyAtBegin() {
        DUE.sentence("In a page the stack is empty at BEGIN");
        FileMaker second = page().raw(134, 134, 135, 135).end().begin(2);
        int at = second.here();
        DUE.refusesAt("POP in the second page", second.copy().raw(135).endWithoutFont(2), at);
        // A place that was popped in the page before does not come back.
        FileMaker pushed = page().raw(136, 9, 134, 135).end().begin(2).raw(134, 136, 5, 135).dot();
        DUE.stands("behind PUSH and POP", DUE.reads("two pages", pushed.endWithoutFont(1), 2), 1, 0, 0, 0, 0, 0);
    }

    private static void emptyAtEnd() {
        DUE.sentence("the stack is empty .. at END");
        DUE.reads("as many POP as PUSH", page().raw(134, 135).endWithoutFont(1), 1);
        DUE.refusesAt("one left", page().raw(134).endWithoutFont(1), 14);
        DUE.refusesAt("one of two left", page().raw(134, 134, 135).endWithoutFont(2), 16);
        DUE.refusesAt("20 left", page().times(20, 134).endWithoutFont(20), 33);
        FileMaker second = page().raw(134, 135).end().begin(2).raw(134).end();
        DUE.refusesAt("one left in the second page", second.last(1).close(), 22);
        DUE.refusesAt("left in the first, taken in the second page",
            page().raw(134).end().begin(2).raw(135).end().last(1).close(), 14);
    }

    private static void popFindsSomething() {
        DUE.sentence("POP finds something on it");
        DUE.refusesAt("POP first", page().raw(135).endWithoutFont(0), 13);
        DUE.refusesAt("POP ahead of PUSH", page().raw(135, 134).endWithoutFont(1), 13);
        DUE.refusesAt("POP twice", page().raw(134, 135, 135).endWithoutFont(1), 15);
        DUE.refusesAt("21 times POP", page().times(20, 134).times(21, 135).endWithoutFont(20), 53);
        DUE.reads("20 times POP", page().times(20, 134).times(20, 135).endWithoutFont(20), 1);
    }

    private static void atMost20Places() {
        DUE.sentence("there are at most 20 places");
        DUE.reads("20 places", page().times(20, 134).times(20, 135).endWithoutFont(20), 1);
        DUE.refusesAt("21 places", page().times(21, 134).times(21, 135).endWithoutFont(21), 33);
        FileMaker again = page().times(20, 134).raw(135, 134, 135, 134);
        DUE.reads("20 places, again and again", again.copy().times(20, 135).endWithoutFont(20), 1);
        DUE.refusesAt("21 places behind POP", again.copy().raw(134).times(21, 135).endWithoutFont(21), 37);
        DUE.reads("40 times PUSH", page().times(40, 134, 135).endWithoutFont(1), 1);
        FileMaker second = page().times(20, 134).times(20, 135).end().begin(2).times(20, 134);
        DUE.reads("20 places in both pages", second.copy().times(20, 135).endWithoutFont(20), 2);
        int at = second.here();
        DUE.refusesAt("21 places in the second page", second.copy().raw(134).times(21, 135).endWithoutFont(21), at);
    }

    /** The pixels are 2 ahead of R(H) and R(V) at PUSH, so that they cannot be made from H and V. */
    private static void allEightAreKept() {
        DUE.sentence("PUSH keeps all eight, POP puts them back");
        FileMaker file = new FileMaker().start(3, 2, 1000).define(0, 7, 64).begin(1).raw(158);
        file.raw(140, 1, 144, 2, 151, 3, 155, 4, 136, 256 - 3, 147, 256 - 7).times(4, 136, 1).times(4, 147, 1);
        file.dot().raw(134).dot().raw(140, 100, 144, 101, 151, 102, 155, 103).dot().raw(135).dot();
        for (int stride : new int[] {139, 143, 150, 154}) {
            file.raw(134, stride).dot().raw(135);
        }
        PageReader x = DUE.reads("PUSH and POP", file.dot().endWithFont(1), 1);
        DUE.stands("ahead of PUSH", x, 0, 0, 4, 4, 8, 8);
        DUE.stands("behind PUSH", x, 0, 1, 4, 4, 8, 8);
        DUE.stands("moved", x, 0, 2, 205, 209, 308, 314);
        DUE.stands("behind POP", x, 0, 3, 4, 4, 8, 8);
        DUE.stands("W", x, 0, 4, 5, 4, 10, 8);
        DUE.stands("X", x, 0, 5, 6, 4, 11, 8);
        DUE.stands("Y", x, 0, 6, 4, 7, 8, 13);
        DUE.stands("Z", x, 0, 7, 4, 8, 8, 14);
        DUE.stands("behind all", x, 0, 8, 4, 4, 8, 8);
    }

    private static void fontStays() {
        DUE.sentence("(the font stays)");
        FileMaker file = new FileMaker().start(3, 2, 1000).define(0, 7, 64).define(1, 7, 0).begin(1);
        file.raw(134, 158, 135, 65, 134, 159, 65, 135, 65).times(4, 136, 1).dot().end().last(1);
        PageReader x = DUE.reads("fonts", file.define(0, 7, 64).define(1, 7, 0).close(), 1);
        DUE.is("chosen behind the first PUSH", x.item(0, 0, 1), 0);
        DUE.is("chosen behind PUSH", x.item(0, 1, 1), 1);
        DUE.is("behind POP", x.item(0, 2, 1), 1);
        // The scale stays with the font: no move is small for the scale 0.
        DUE.stands("moves behind POP", x, 0, 3, 4, 0, 6, 0);
    }

    private static void lastOneFirst() {
        DUE.sentence("PUSH keeps, POP puts back: the one kept last");
        FileMaker file = page();
        for (int i = 0; i < 20; i++) {
            file.raw(134, 136, 1, 147, 2);
        }
        for (int i = 0; i < 20; i++) {
            file.dot().raw(135);
        }
        PageReader x = DUE.reads("20 places", file.dot().endWithoutFont(20), 1);
        for (int k = 0; k <= 20; k++) {
            DUE.stands("item " + k, x, 0, k, 20 - k, 40 - 2 * k, 20 - k, 40 - 2 * k);
        }
    }
}
