/** Promise 35: spoilt. */
public final class Promise35Test {
    private static final Cases C = new Cases(Promise35Test.class);

    public static void main(String[] args) throws ReflectiveOperationException {
        C.run();
    }

    static void whichSeed() {
        C.edges(Texts.FULL, 2, "spoilt() seed", 0, 65536, (x, v) -> x.spoilt(v, 1, true));
        C.edges(Texts.FULL, 2, "spoilt() seed", 0, 65536, (x, v) -> x.spoilt(v, 1, false));
    }

    static void howManySundays() {
        C.edges(Texts.FULL, 2, "spoilt() n", 0, 200, (x, v) -> x.spoilt(0, v, true));
        C.edges(Texts.FULL, 2, "spoilt() n", 0, 200, (x, v) -> x.spoilt(0, v, false));
    }

    static void noKitchenAheadOfTheNumbers() {
        LongerHalf x = new LongerHalf();
        C.refuses(x, 1, "spoilt(-1, 201)", () -> x.spoilt(-1, 201, true));
        C.refuses(x, 1, "spoilt(0, 0)", () -> x.spoilt(0, 0, false));
    }

    private static void spoilt(LongerHalf x, int n, int three, int bent) {
        C.due("THREE of " + n, x.spoilt(0, n, false), three);
        C.due("BENDS of " + n, x.spoilt(0, n, true), bent);
        C.due("trouble()", x.trouble(), 0);
    }

    static void noSundays() {
        spoilt(Check.told(Texts.brittle("1,9", "1,9")), 0, 0, 0);
    }

    static void allAreThree() {
        spoilt(Check.told(Texts.brittle("1,9", "1,9")), 1, 1, 0);
        spoilt(Check.told(Texts.brittle("1,9", "1,9")), 200, 200, 0);
    }

    static void allBend() {
        spoilt(Check.told(Texts.brittle("9,9", "9,9")), 200, 0, 200);
        LongerHalf x = Check.told(Texts.brittle("1,9", "1,9"));
        x.boil(0);
        spoilt(x, 200, 0, 200);
    }

    static void noneIsSpoilt() {
        spoilt(Check.told(Texts.brittle("1,9", "9,9")), 200, 0, 0);
    }

    /** Hold 6 is 2 on arms of two. */
    static void toldHoldsNobodyMovesButChildren() {
        String text = Texts.of(Texts.rules(0, 25, 9, 0, 0), Texts.hen("h", "5,9", "5,9"), Texts.PAIR);
        spoilt(Check.told(text), 9, 0, 9);
        spoilt(Check.told(text.replace("plain", "child")), 9, 9, 0);
    }

    static void itIsNoAct() {
        LongerHalf x = Check.told(Texts.FULL);
        x.seed(77);
        String before = Cases.shown(x);
        x.spoilt(5, 200, true);
        C.due("nothing has changed", Cases.shown(x).equals(before), true);
    }
}
