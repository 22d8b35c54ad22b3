/** Promise 19: curve. */
public final class Promise19Test {
    private static final Cases C = new Cases(Promise19Test.class);
    /** Right 0 gives way if 25 is more than 30 less days; it bends of fewer days than 3. */
    private static final String TEXT = Texts.of(Texts.rules(3, 30, 0, 0, 0), "bone h hen dry 5 left 9,9 right 1,2",
            Texts.person("a", "plain", 10, 1), Texts.person("b", "plain", 15, 1));

    public static void main(String[] args) throws ReflectiveOperationException {
        C.run();
    }

    private static void curve(LongerHalf x, int days, long up, long low) {
        C.part("curve() of " + days, x.curve(0, 0, 1, days, false), x.curve(0, 0, 1, days, true), up, low);
    }

    static void asAPairIsRefused() {
        C.edgesOfPair("curve()", (x, b, p, q) -> x.curve(b, p, q, 0, true));
    }

    static void days() {
        C.edges(Texts.FULL, 2, "curve() days", 0, 24, (x, v) -> x.curve(0, 0, 1, v, true));
        C.edges(Texts.FULL, 2, "curve() days", 0, 24, (x, v) -> x.curve(0, 0, 1, v, false));
    }

    static void by1AheadOf2() {
        LongerHalf x = Check.told(Texts.FULL);
        C.refuses(x, 1, "no bone, no days", () -> x.curve(3, 0, 1, 25, true));
        C.refuses(x, 1, "like people, no days", () -> x.curve(0, 1, 1, -1, true));
    }

    static void fromTheDayOnWhenItGivesWay() {
        LongerHalf x = Check.told(TEXT);
        curve(x, 4, 0, 1);
        curve(x, 5, 0, 1);
        curve(x, 6, 1, 1);
        curve(x, 24, 1, 1);
    }

    static void fromTheDayOnWhenItBendsNoMore() {
        LongerHalf x = Check.told(TEXT.replace("force 15", "force 40"));
        curve(x, 0, 0, 1);
        curve(x, 2, 0, 1);
        curve(x, 3, 1, 1);
    }

    /** The days of the bone don't matter, and asking dries nothing. */
    static void theBoneIsNotDried() {
        LongerHalf x = Check.told(TEXT);
        String before = Cases.shown(x);
        curve(x, 24, 1, 1);
        C.due("nothing has changed", Cases.shown(x).equals(before), true);
        x.dry(24);
        curve(x, 5, 0, 1);
    }

    static void aBoiledOneBends() {
        LongerHalf x = Check.told(TEXT);
        x.boil(0);
        curve(x, 24, 0, 1);
    }

    /** Hold 6 is as much as 2 on an arm of two, and as 3 on one of three. */
    static void theToldHoldOrTheArmIfThatIsLess() {
        LongerHalf x = Check.told(Texts.brittle("9,9", "9,9,5"));
        curve(x, 24, x.odds(0, 0, 2, 1, 3, 2, 0, false), x.odds(0, 0, 2, 1, 3, 2, 0, true));
        LongerHalf y = Check.told(Texts.brittle("9,9", "5,9,9"));
        // 6 by 5: held at 2 it would be 4 by 5
        curve(y, 24, 1, 1);
        LongerHalf z = Check.told(Texts.brittle("9,9", "5,9,9").replace("b plain force 1 hold 6", "b plain force 1 hold 2"));
        curve(z, 24, 0, 1);
    }

    static void nobodyMovesButChildren() {
        String text = Texts.of(Texts.rules(0, 25, 9, 0, 0), Texts.hen("h", "9,9", "2,9"), Texts.person("a", "plain", 1, 1),
                Texts.person("b", "plain", 1, 1));
        curve(Check.told(text), 24, 0, 1);
        curve(Check.told(text.replace("b plain", "b child")), 24, 1, 1);
    }

    static void oddsWithFlaws() {
        curve(Check.told(Texts.flawed(40, "9,9", "3,9").replace("hold 6", "hold 1")), 24, 1, 10);
    }
}
