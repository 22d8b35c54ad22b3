/** Promise 10: strain, by STRAIN of terms II. */
public final class Promise10Test {
    private static final Cases C = new Cases(Promise10Test.class);
    /** FORCE of a and b is 41, of c, the child, and a 3. */
    private static final String TEXT = Texts.of(Texts.rules(0, 60, 7, 0, 0),
            "bone h hen dry 0 left 1,1,1 right 1,1,1,1,1,1", Texts.person("a", "plain", 1, 1),
            Texts.person("b", "plain", 40, 1), Texts.person("c", "child", 2, 1));

    public static void main(String[] args) throws ReflectiveOperationException {
        C.run();
    }

    static void asAPullIsRefused() {
        C.edgesOfPull("strain()", (x, b, p, hp, q, hq, moves) -> x.strain(b, 0, 0, p, hp, q, hq, moves));
    }

    static void whichArmAndPlace() {
        C.edges(TEXT, 1, "strain() arm", 0, 1, (x, v) -> x.strain(0, v, 0, 0, 1, 1, 1, 2));
        C.edges(TEXT, 1, "strain() left", 0, 2, (x, v) -> x.strain(0, 0, v, 0, 1, 1, 1, 2));
        C.edges(TEXT, 1, "strain() right", 0, 5, (x, v) -> x.strain(0, 1, v, 0, 1, 1, 1, 2));
    }

    static void aPlaceThatIsNoneAheadOfAHoldThatIsNone() {
        LongerHalf x = Check.told(TEXT);
        C.refuses(x, 1, "no place, no hold", () -> x.strain(0, 0, 3, 0, 0, 1, 1, 2));
    }

    static void nearerTheKnobThanTheHoldAndNot() {
        LongerHalf x = Check.told(TEXT);
        int[] due = {82, 41, 0};
        for (int place = 0; place < 3; place++) {
            C.due("left " + place + " held at 2", x.strain(0, 0, place, 0, 2, 1, 1, 2), due[place]);
        }
        C.due("place 0 held at 1", x.strain(0, 0, 0, 0, 1, 1, 1, 2), 41);
        C.due("place 1 held at 1", x.strain(0, 0, 1, 0, 1, 1, 1, 2), 0);
        for (int place = 0; place < 6; place++) {
            C.due("right " + place + " held at 6", x.strain(0, 1, place, 0, 1, 1, 6, 2), 41 * (6 - place));
        }
    }

    static void jerkOfWhoMoves() {
        LongerHalf x = Check.told(TEXT);
        int[] left = {48, 41, 41, 48};
        int[] right = {41, 48, 41, 48};
        for (int moves = 0; moves < 4; moves++) {
            C.due("left, moves " + moves, x.strain(0, 0, 0, 0, 1, 1, 1, moves), left[moves]);
            C.due("right, moves " + moves, x.strain(0, 1, 0, 0, 1, 1, 1, moves), right[moves]);
        }
    }

    static void noJerkAtTheHoldOrBeyond() {
        LongerHalf x = Check.told(TEXT);
        C.due("at the hold", x.strain(0, 0, 1, 0, 1, 1, 1, 3), 0);
        C.due("beyond it", x.strain(0, 1, 5, 0, 1, 1, 4, 3), 0);
        C.due("next to it", x.strain(0, 1, 3, 0, 1, 1, 4, 3), 48);
    }

    static void aChildAlwaysMoves() {
        LongerHalf x = Check.told(TEXT);
        for (int moves = 0; moves < 4; moves++) {
            C.due("on the left, moves " + moves, x.strain(0, 0, 0, 2, 1, 0, 1, moves), 10);
            C.due("on the right, moves " + moves, x.strain(0, 1, 0, 0, 1, 2, 1, moves), 10);
        }
        C.due("the other one doesn't", x.strain(0, 1, 0, 2, 1, 0, 1, 2), 3);
        C.due("at his hold", x.strain(0, 0, 1, 2, 1, 0, 1, 2), 0);
    }

    static void theLeastAndTheGreatest() {
        LongerHalf x = Check.told(Texts.brittle("1,1", "1,1"));
        C.due("by 1 and 1", x.strain(0, 0, 0, 0, 1, 1, 1, 3), 2);
        LongerHalf y = Check.told(Texts.of(Texts.rules(9, 60, 99, 0, 0), "bone h hen dry 0 left 1,1 right 1,1,1,1,1,1",
                Texts.person("a", "plain", 40, 1), Texts.person("b", "plain", 40, 1)));
        C.due("by 40 and 40, six nearer, and 99", y.strain(0, 1, 0, 0, 1, 1, 6, 1), 579);
    }
}
