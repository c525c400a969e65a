/** What it is: an object answers to its 512th call as it did to its first ones. */
public final class CallsTest {
    private static final Due DUE = new Due("CallsTest");
    private static final int MOST_CALLS = 512;

    public static void main(String[] args) {
        readsToTheLastCall();
        refusalsToTheLastCall();
        everyCallToTheLast();
        DUE.end();
    }

    /** The dearest file: 600 bytes and 200 items; what its reads make is not kept from one to the next. */
    private static void readsToTheLastCall() {
        DUE.sentence("An object is used for at most 512 calls: read()");
        FileMaker file = FileMaker.pageWithFont(3, 2).times(20, 134).times(20, 135).times(200, 65).end().last(20);
        file.define(0, 7, 64).nothingsUpTo(592).close();
        PageReader x = file.reader();
        DUE.is("width(0, 65, 1)", x.width(0, 65, 1), true);
        int calls = 600 / 8 + 1;
        for (; calls < MOST_CALLS - 4; calls++) {
            DUE.is("read(), call " + calls, x.read(), 1);
        }
        DUE.is("page(0, 1)", x.page(0, 1), 200);
        DUE.is("item(0, 199, 2)", x.item(0, 199, 2), 199);
        DUE.is("most(0)", x.most(0), 199);
        DUE.is("wrong(), the last call", x.wrong(), -1);
    }

    private static void refusalsToTheLastCall() {
        DUE.sentence("An object is used for at most 512 calls: calls that throw");
        PageReader x = new PageReader();
        for (int i = 0; i < MOST_CALLS / 8; i++) {
            DUE.refuses("add(0, 0)", () -> x.add(0, 0), IllegalArgumentException.class);
            DUE.refuses("add(0, 9)", () -> x.add(0, 9), IllegalArgumentException.class);
            DUE.refuses("cut(1)", () -> x.cut(1), IllegalArgumentException.class);
            DUE.is("width(8, 0, 0)", x.width(8, 0, 0), false);
            DUE.refuses("read()", x::read, UnsupportedOperationException.class);
            DUE.hasNone("page(0, 0)", () -> x.page(0, 0));
            DUE.hasNone("item(0, 0, 0)", () -> x.item(0, 0, 0));
            DUE.is("wrong()", x.wrong(), 0);
        }
    }

    private static void everyCallToTheLast() {
        DUE.sentence("An object is used for at most 512 calls: each kind of call, in turn");
        FileMaker file = FileMaker.pageWithFont(3, 2).raw(65, 65).endWithFont(0);
        PageReader x = file.reader();
        int calls = (file.here() + 7) / 8;
        int w = 0;
        for (; calls + 12 < MOST_CALLS; calls += 12) {
            w++;
            DUE.is("add of 0, 223, 223, 223", x.add(0xDFDFDF00L, 4), file.here() + 4);
            DUE.refuses("read()", x::read, UnsupportedOperationException.class);
            DUE.is("wrong(), at CLOSE", x.wrong(), 41);
            DUE.isExactly("conv()", x.conv(), 0.0);
            DUE.is("cut(4)", x.cut(4), file.here());
            DUE.is("width(0, 65, " + w + ")", x.width(0, 65, w), true);
            DUE.is("read()", x.read(), 1);
            DUE.is("wrong()", x.wrong(), -1);
            DUE.is("page(0, 1)", x.page(0, 1), 2);
            DUE.is("item(0, 1, 2)", x.item(0, 1, 2), w);
            DUE.is("most(0)", x.most(0), w);
            DUE.isExactly("conv()", x.conv(), 1.5);
        }
        for (; calls < MOST_CALLS; calls++) {
            DUE.is("item(0, 1, 2), to the last call", x.item(0, 1, 2), w);
        }
    }
}
