/** Terms: where fonts are defined and chosen. */
public final class FontTest {
    private static final Due DUE = new Due("FontTest");

    public static void main(String[] args) {
        definedBeforeItIsNamed();
        atMostOnceAheadOfLast();
        definedBehindWasDefinedBefore();
        sameMarkAndScale();
        eachIsDefinedBehind();
        justOnceBehind();
        setAndPutBehindAFont();
        DUE.end();
    }

    private static FileMaker start() {
        return new FileMaker().start(1, 1, 1000);
    }

    private static void definedBeforeItIsNamed() {
        DUE.sentence("A font is defined before a FONT names it");
        for (int font = 0; font < 8; font++) {
            FileMaker ahead = start().define(font, 1, 1).begin(1).raw(158 + font).end().last(0).define(font, 1, 1).close();
            DUE.reads("ahead of the page", ahead, 1);
            DUE.refusesAt("never", start().begin(1).raw(158 + font).endWithoutFont(0), 13);
            int other = (font + 1) % 8;
            FileMaker only = start().define(other, 1, 1).begin(1).raw(158 + font).end().last(0).define(other, 1, 1).close();
            DUE.refusesAt("another one", only, 19);
        }
        DUE.reads("in the page", start().begin(1).define(0, 1, 1).raw(158, 65).end().last(0).define(0, 1, 1).close(), 1);
        FileMaker before = start().begin(1).define(0, 1, 1).end().begin(2).raw(158, 65).end().last(0);
        DUE.reads("in the page before", before.define(0, 1, 1).close(), 2);
        FileMaker between = start().begin(1).end().define(0, 1, 1).begin(2).raw(158).end().last(0);
        DUE.reads("between the pages", between.define(0, 1, 1).close(), 2);
        FileMaker behind = start().begin(1).raw(158).define(0, 1, 1).end().last(0).define(0, 1, 1).close();
        DUE.refusesAt("behind FONT", behind, 13);
        FileMaker next = start().begin(1).raw(158).end().define(0, 1, 1).last(0).define(0, 1, 1).close();
        DUE.refusesAt("behind the page", next, 13);
        FileMaker last = start().begin(1).raw(158).end().last(0).define(0, 1, 1).close();
        DUE.refusesAt("behind LAST", last, 13);
    }

    private static void atMostOnceAheadOfLast() {
        DUE.sentence("and at most once ahead of LAST");
        DUE.reads("never", start().last(0).close(), 0);
        DUE.reads("once", start().define(0, 1, 1).last(0).define(0, 1, 1).close(), 0);
        DUE.refusesAt("twice", start().define(0, 1, 1).define(0, 1, 1).last(0).define(0, 1, 1).close(), 14);
        DUE.refusesAt("twice, with another MARK and SCALE",
            start().define(0, 1, 1).define(0, 2, 2).last(0).define(0, 2, 2).close(), 14);
        DUE.refusesAt("twice in a page",
            start().begin(1).define(7, 1, 1).define(7, 1, 1).end().last(0).define(7, 1, 1).close(), 19);
        DUE.refusesAt("ahead of a page and in it",
            start().define(7, 1, 1).begin(1).define(7, 1, 1).end().last(0).define(7, 1, 1).close(), 19);
        DUE.refusesAt("in a page and behind it",
            start().begin(1).define(7, 1, 1).end().define(7, 1, 1).last(0).define(7, 1, 1).close(), 20);
        DUE.refusesAt("in two pages",
            start().begin(1).define(7, 1, 1).end().begin(1).define(7, 1, 1).end().last(0).define(7, 1, 1).close(), 25);
        FileMaker alike = start().define(0, 1, 1).define(1, 1, 1).last(0).define(1, 1, 1).define(0, 1, 1).close();
        DUE.reads("two that are alike", alike, 0);
    }

    private static void definedBehindWasDefinedBefore() {
        DUE.sentence("behind LAST each font that is defined there was defined before");
        for (int font = 0; font < 8; font++) {
            DUE.refusesAt("none was defined", start().last(0).define(font, 0, 0).close(), 20);
            int other = (font + 1) % 8;
            FileMaker both = start().define(other, 1, 1).last(0).define(other, 1, 1).define(font, 1, 1).close();
            DUE.refusesAt("only the other one was defined", both, 32);
        }
    }

    private static void sameMarkAndScale() {
        DUE.sentence("with the same MARK and SCALE");
        FileMaker file = start().define(3, 258, 772).last(0);
        DUE.reads("the same", file.copy().define(3, 258, 772).close(), 0);
        int[][] others = {{257, 772}, {259, 772}, {2, 772}, {514, 772}, {258, 771}, {258, 773}, {258, 4}, {258, 1028},
            {772, 258}, {0, 772}, {258, 0}};
        for (int[] o : others) {
            DUE.refusesAt(o[0] + " and " + o[1], file.copy().define(3, o[0], o[1]).close(), 26);
        }
        FileMaker two = start().define(0, 1, 2).define(1, 3, 4).last(0);
        DUE.reads("in another order", two.copy().define(1, 3, 4).define(0, 1, 2).close(), 0);
        DUE.refusesAt("exchanged", two.copy().define(0, 3, 4).define(1, 1, 2).close(), 32);
        FileMaker bounds = start().define(0, 0, 0).define(7, 65535, 65535).last(0);
        DUE.reads("0 and 65535", bounds.define(0, 0, 0).define(7, 65535, 65535).close(), 0);
    }

    /** It is looked for at CLOSE, since a DEFINE may come until then. */
    private static void eachIsDefinedBehind() {
        DUE.sentence("each font that was defined before is defined there");
        for (int left = 0; left < 8; left++) {
            FileMaker file = start();
            for (int font = 0; font < 8; font++) {
                file.define(font, font, font);
            }
            file.last(0);
            FileMaker all = file.copy();
            for (int font = 0; font < 8; font++) {
                all.define(font, font, font);
                if (font != left) {
                    file.define(font, font, font);
                }
            }
            DUE.reads("all", all.close(), 0);
            int at = file.here();
            DUE.refusesAt("all but " + left, file.copy().close(), at);
            DUE.refusesAt("all but " + left + ", NOTHING for it", file.copy().raw(131).close(), at + 1);
        }
        DUE.refusesAt("none", start().define(0, 1, 1).last(0).close(), 26);
        FileMaker inPage = start().begin(1).define(0, 1, 1).end().last(0);
        DUE.refusesAt("none, defined in a page", inPage.copy().close(), 32);
        DUE.reads("one, defined in a page and not used", inPage.copy().define(0, 1, 1).close(), 1);
    }

    private static void justOnceBehind() {
        DUE.sentence("just once");
        FileMaker file = start().define(0, 1, 1).define(7, 1, 1).last(0).define(0, 1, 1).define(7, 1, 1);
        DUE.reads("once", file.copy().close(), 0);
        DUE.refusesAt("font 0 twice", file.copy().define(0, 1, 1).close(), 44);
        DUE.refusesAt("font 7 twice", file.copy().define(7, 1, 1).close(), 44);
        DUE.refusesAt("font 7 twice, NOTHING between", file.copy().raw(131).define(7, 1, 1).close(), 45);
    }

    private static void setAndPutBehindAFont() {
        DUE.sentence("SET and PUT stand where a FONT of the page is ahead of them");
        FileMaker page = start().define(0, 7, 64).begin(1);
        DUE.reads("SET", page.copy().raw(158, 65).endWithFont(0), 1);
        DUE.reads("PUT", page.copy().raw(158, 128, 65).endWithFont(0), 1);
        DUE.refusesAt("SET without FONT", page.copy().raw(65).endWithFont(0), 19);
        DUE.refusesAt("PUT without FONT", page.copy().raw(128, 65).endWithFont(0), 19);
        DUE.refusesAt("SET ahead of FONT", page.copy().raw(65, 158).endWithFont(0), 19);
        DUE.refusesAt("PUT ahead of FONT", page.copy().raw(128, 65, 158).endWithFont(0), 19);
        FileMaker second = page.copy().raw(158, 65).end().begin(2);
        int at = second.here();
        DUE.reads("FONT in both pages", second.copy().raw(158, 65).endWithFont(0), 2);
        DUE.refusesAt("SET behind the FONT of the page before", second.copy().raw(65).endWithFont(0), at);
        DUE.refusesAt("PUT behind the FONT of the page before", second.copy().raw(128, 65).endWithFont(0), at);
        DUE.reads("FONT between PUSH and POP", page.copy().raw(134, 158, 135, 65, 128, 65).endWithFont(1), 1);
        DUE.reads("rules need none", page.copy().rule(129, 1, 1).rule(130, 1, 1).endWithFont(0), 1);
    }
}
