/** Promise 18: sure. */
public final class Promise18Test {
    private static final Cases C = new Cases(Promise18Test.class);

    public static void main(String[] args) throws ReflectiveOperationException {
        C.run();
    }

    private static void sure(LongerHalf x, int p, int q, long up, long low) {
        C.part("sure(0, " + p + ", " + q + ")", x.sure(0, p, q, false), x.sure(0, p, q, true), up, low);
        C.due("trouble()", x.trouble(), 0);
    }

    static void asAPairIsRefused() {
        C.edgesOfPair("sure()", (x, b, p, q) -> x.sure(b, p, q, true));
        C.edgesOfPair("sure()", (x, b, p, q) -> x.sure(b, p, q, false));
    }

    static void ofNothing() {
        LongerHalf x = Check.told(Texts.brittle("1,9", "9,9"));
        sure(x, 0, 1, 0, 1);
        x.boil(0);
        sure(x, 0, 1, 0, 1);
    }

    /** Right 0 is 2 by 1 by whatever hold; left 0 bears a hold at 1. */
    static void ofAll() {
        sure(Check.told(Texts.brittle("9,9", "1,9")), 0, 1, 1, 1);
    }

    /** q holds at 1: right 0 is 2 by 3 there, and gives way by a FLAW alone, one of four places. */
    static void whateverTheOtherOneDoes() {
        sure(Check.told(Texts.flawed(40, "9,9", "3,9")), 0, 1, 1, 10);
        sure(Check.told(Texts.flawed(40, "3,9", "9,9")), 0, 1, 0, 1);
    }

    /** Held at 1 it is 2 by 2 on the left; moving it is 11 by 2, held at 2 as much as on the right. */
    static void byTheOneChoiceThatServes() {
        LongerHalf x = Check.told(Texts.of(Texts.rules(0, 25, 9, 0, 0), Texts.hen("h", "2,9", "1,9"), Texts.PAIR));
        sure(x, 0, 1, 1, 1);
    }

    /** A jerk breaks the arm of a child, who can't but move. */
    static void againstAChild() {
        String text = Texts.of(Texts.rules(0, 25, 2, 0, 0), Texts.hen("h", "9,9", "3,9"), Texts.PAIR,
                Texts.person("c", "child", 1, 1));
        LongerHalf x = Check.told(text);
        sure(x, 0, 1, 0, 1);
        sure(x, 0, 2, 1, 1);
    }
}
