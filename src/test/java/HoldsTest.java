/** Promises 15 to 18: best, rests, rest, sure. */
public final class HoldsTest {
    private static final Check CHECK = new Check("HoldsTest");

    /** FORCE is 2, STRENGTH the thickness; a FLAW in left 0 makes it as weak as right 0. */
    private static final String TEXT = "kitchen bends 2 tough 25 jerk 0 thumb 0 flaw 50;"
            + "bone h hen dry 24 left 3,9 right 1,9;person a plain force 1 hold 2 wish 0;"
            + "person b plain force 1 hold 2 wish 0;person c child force 1 hold 2 wish 0";

    public static void main(String[] args) {
        byHand();
        asTold();
        againstAnyHold();
        wrongInputs();
        CHECK.end();
    }

    private static void byHand() {
        LongerHalf x = Check.told(TEXT);
        CHECK.due("best(0, 0, 1, 1)", x.best(0, 0, 1, 1), 10);
        CHECK.due("best() of a child", x.best(0, 2, 1, 2), 11);
        // 1 and 1, 1 and 2, 2 and 1 are at rest, and moving makes no difference
        CHECK.due("rests(0, 0, 1)", x.rests(0, 0, 1), 12);
        CHECK.due("rest(0, 0, 1)", x.rest(0, 0, 1), 1010);
        CHECK.due("rests() of a child", x.rests(0, 2, 1), 6);
        CHECK.due("rest() of a child", x.rest(0, 2, 1), 1110);
        CHECK.due("rest() against a child", x.rest(0, 0, 2), 1011);
        CHECK.part("sure(0, 0, 1)", x.sure(0, 0, 1, false), x.sure(0, 0, 1, true), 7, 8);
        CHECK.part("sure(0, 1, 0)", x.sure(0, 1, 0, false), x.sure(0, 1, 0, true), 7, 8);
    }

    private static void asTold() {
        LongerHalf x = Check.told(Texts.FULL);
        CHECK.due("rests(0, 0, 1)", x.rests(0, 0, 1), 5);
        CHECK.part("sure(0, 0, 1)", x.sure(0, 0, 1, false), x.sure(0, 0, 1, true), 0, 1);
        CHECK.due("rests() of a boiled one", x.rests(2, 0, 1), 16);
        CHECK.due("rests() of a boiled one and a child", x.rests(2, 0, 2), 8);
        CHECK.due("rests() of a goose's", x.rests(1, 0, 1) > 0, true);
    }

    /** No other hold of p has greater odds than BEST, by what odds() answers. */
    private static void againstAnyHold() {
        LongerHalf x = Check.told(TEXT.replace("jerk 0", "jerk 1"));
        for (int hq = 1; hq <= 2; hq++) {
            int best = x.best(0, 0, 1, hq);
            double most = odds(x, best / 10, best % 10, hq);
            for (int hp = 1; hp <= 2; hp++) {
                for (int m = 0; m < 2; m++) {
                    CHECK.due("best against " + hq, odds(x, hp, m, hq) <= most, true);
                }
            }
        }
    }

    private static double odds(LongerHalf x, int hp, int m, int hq) {
        int moves = m == 1 ? 0 : 2;
        return (double) x.odds(0, 0, hp, 1, hq, moves, 0, false) / x.odds(0, 0, hp, 1, hq, moves, 0, true);
    }

    private static void wrongInputs() {
        LongerHalf x = Check.told(Texts.FULL);
        int[][] wrong = {{3, 0, 1}, {-1, 0, 1}, {0, 0, 0}, {0, 4, 0}, {0, 0, 4}, {0, -1, 0}, {0, 0, -1}};
        for (int[] w : wrong) {
            CHECK.refused(x, "best()", x.best(w[0], w[1], w[2], 9), 1);
            CHECK.refused(x, "rests()", x.rests(w[0], w[1], w[2]), 1);
            CHECK.refused(x, "rest()", x.rest(w[0], w[1], w[2]), 1);
            CHECK.refused(x, "sure()", x.sure(w[0], w[1], w[2], true), 1);
        }
        CHECK.refused(x, "best() hold 0", x.best(0, 0, 1, 0), 2);
        CHECK.refused(x, "best() hold 4", x.best(0, 0, 1, 4), 2);
        CHECK.due("best() hold 3", x.best(0, 0, 1, 3), 10);
        CHECK.due("trouble()", x.trouble(), 0);
    }
}
