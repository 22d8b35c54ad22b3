/** Promise 25: hand, by HAND of terms III. */
public final class Promise25Test {
    private static final Cases C = new Cases(Promise25Test.class);

    public static void main(String[] args) throws ReflectiveOperationException {
        C.run();
    }

    private static LongerHalf told(int won, int lost) {
        return Check.told(Texts.people(3) + Texts.more("won a b left", 0, won) + Texts.more("won b a right", 0, lost));
    }

    private static void hand(LongerHalf x, int p, long up, long low) {
        C.part("hand(" + p + ")", x.hand(p, false), x.hand(p, true), up, low);
        C.due("trouble()", x.trouble(), 0);
    }

    static void whichPerson() {
        C.edges(Texts.FULL, 1, "hand()", 0, 3, (x, v) -> x.hand(v, true));
        C.edges(Texts.FULL, 1, "hand()", 0, 3, (x, v) -> x.hand(v, false));
    }

    static void ofNoPulls() {
        hand(told(0, 0), 0, 1, 1);
        hand(told(12, 0), 2, 1, 1);
    }

    static void ofOnePull() {
        hand(told(1, 0), 0, 1, 2);
        hand(told(1, 0), 1, 1, 1);
    }

    static void allWonAndNoneWon() {
        hand(told(12, 0), 0, 1, 4096);
        hand(told(12, 0), 1, 1, 1);
        hand(told(11, 0), 0, 1, 2048);
    }

    static void allButOneAndOneAlone() {
        hand(told(11, 1), 0, 13, 4096);
        hand(told(11, 1), 1, 4095, 4096);
    }

    static void halfOfThem() {
        hand(told(6, 6), 0, 1255, 2048);
        hand(told(6, 6), 1, 1255, 2048);
    }

    static void actsAreNotToldPulls() {
        LongerHalf x = Check.told(Texts.FULL);
        x.pull(0, 0, 2, 1, 3, 2);
        C.due("person(0, 6)", x.person(0, 6), 1);
        hand(x, 0, 7, 64);
    }
}
