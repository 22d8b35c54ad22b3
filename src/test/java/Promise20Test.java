/** Promise 20: bestDay. */
public final class Promise20Test {
    private static final Cases C = new Cases(Promise20Test.class);

    public static void main(String[] args) throws ReflectiveOperationException {
        C.run();
    }

    private static LongerHalf hen(int bends, int tough, int flaw, String right, int force) {
        return Check.told(Texts.of(Texts.rules(bends, tough, 0, 0, flaw), "bone h hen dry 7 left 9,9 right " + right,
                Texts.person("a", "plain", 1, 1), Texts.person("b", "plain", force, 1)));
    }

    static void asAPairIsRefused() {
        C.edgesOfPair("bestDay()", LongerHalf::bestDay);
    }

    static void theLeastDayIfNoneIsBetter() {
        C.due("never", hen(0, 60, 0, "9,9", 1).bestDay(0, 0, 1), 0);
        C.due("boiled", Check.told(Texts.FULL).bestDay(2, 0, 1), 0);
    }

    static void theLeastDayIfAllAreAlike() {
        C.due("always", hen(0, 25, 0, "1,1", 40).bestDay(0, 0, 1), 0);
    }

    /** 3 by 2 times 25 less days: more on day 24 alone. */
    static void theGreatestDay() {
        C.due("on day 24", hen(0, 25, 0, "2,9", 2).bestDay(0, 0, 1), 24);
    }

    /** By a FLAW it gives way on earlier days, too, which is less likely than what comes later without one. */
    static void theGreatestOddsNotTheFirst() {
        C.due("3 by 4 on day 23, 3 by 2 on day 24", hen(0, 25, 50, "2,9", 2).bestDay(0, 0, 1), 24);
        C.due("4 by 4 on day 23, 4 by 2 on day 24", hen(0, 25, 50, "2,9", 3).bestDay(0, 0, 1), 24);
        C.due("5 by 6 on day 22, 5 by 4 on day 23", hen(0, 25, 50, "2,9", 4).bestDay(0, 0, 1), 23);
    }

    static void theLeastOfLikeDaysWhenItBendsNoMore() {
        C.due("bends 9", hen(9, 25, 0, "1,1", 40).bestDay(0, 0, 1), 9);
        C.due("bends 1", hen(1, 25, 0, "1,1", 40).bestDay(0, 0, 1), 1);
    }

    static void askingDriesNothing() {
        LongerHalf x = hen(0, 25, 0, "2,9", 2);
        String before = Cases.shown(x);
        x.bestDay(0, 0, 1);
        C.due("nothing has changed", Cases.shown(x).equals(before), true);
        x.dry(24);
        C.due("the same behind it", x.bestDay(0, 0, 1), 24);
    }
}
