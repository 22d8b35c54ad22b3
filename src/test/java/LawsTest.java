/** Promises 19 to 22: curve, bestDay, lawOdds, fairest. */
public final class LawsTest {
    private static final Check CHECK = new Check("LawsTest");

    private static final String RULES = "kitchen bends 2 tough 25 jerk 0 thumb 3 flaw 0;";
    private static final String PEOPLE = ";person a plain force 1 hold 1 wish 0;person b cook force 1 hold 1 wish 0;"
            + "person c plain force 1 hold 1 wish 0;person d cheat force 1 hold 1 wish 0";

    public static void main(String[] args) {
        curves();
        laws();
        alike();
        wrongInputs();
        CHECK.end();
    }

    private static void curves() {
        LongerHalf x = Check.told("kitchen bends 3 tough 30 jerk 0 thumb 0 flaw 0;"
                + "bone h hen dry 5 left 9,9 right 1,2;bone x boiled dry 9 left 9,9 right 1,2;"
                + "person a plain force 10 hold 6 wish 0;person b plain force 15 hold 1 wish 0;"
                + "person c child force 1 hold 1 wish 0");
        // 25 is more than 30 less days from 6 days on
        for (int days = 0; days <= 24; days++) {
            CHECK.part("curve of " + days, x.curve(0, 0, 1, days, false), x.curve(0, 0, 1, days, true),
                    days < 6 ? 0 : 1, 1);
        }
        CHECK.due("bestDay(0, 0, 1)", x.bestDay(0, 0, 1), 6);
        CHECK.due("bone(0, 1) is not dried by asking", x.bone(0, 1), 5);
        CHECK.due("bestDay() of a boiled one", x.bestDay(1, 0, 1), 0);
        CHECK.due("curve() of a boiled one", x.curve(1, 0, 1, 20, false), 0);
        // 50 by 1 times 30 less days on the right: as soon as it doesn't bend
        CHECK.due("bestDay(0, 1, 0)", x.bestDay(0, 1, 0), 3);
        CHECK.due("bestDay() with flaws", Check.told(Texts.FULL).bestDay(0, 0, 1), 2);
        LongerHalf y = Check.told("kitchen bends 0 tough 30 jerk 20 thumb 0 flaw 0;bone h hen dry 5 left 9,9 right 1,2;"
                + "person a plain force 10 hold 6 wish 0;person c child force 1 hold 1 wish 0");
        // 11 and the child's jerk
        CHECK.due("bestDay() against a child", y.bestDay(0, 0, 1), 0);
        CHECK.due("curve(0, 0, 1, 0)", y.curve(0, 0, 1, 0, false), 1);
    }

    private static void law(LongerHalf x, int p, int q, int fairest, int... want) {
        for (int law = 0; law < 3; law++) {
            CHECK.part("law " + law + " of " + p + " and " + q,
                    x.lawOdds(law, 0, p, q, false), x.lawOdds(law, 0, p, q, true), want[law], 1);
        }
        CHECK.part("by lot of " + p + " and " + q, x.lawOdds(3, 0, p, q, false), x.lawOdds(3, 0, p, q, true),
                want[3], want[4]);
        CHECK.due("fairest of " + p + " and " + q, x.fairest(0, p, q), fairest);
    }

    private static void laws() {
        // the left arm always breaks at 0, and is the thicker one
        LongerHalf x = Check.told(RULES + "bone h hen dry 24 left 1,9,9 right 9,9" + PEOPLE);
        law(x, 0, 2, 3, 0, 1, 0, 1, 2);
        law(x, 1, 0, 3, 0, 0, 0, 1, 2);
        law(x, 0, 1, 3, 0, 1, 1, 1, 2);
        LongerHalf full = Check.told(Texts.FULL);
        CHECK.part("law 0", full.lawOdds(0, 0, 0, 1, false), full.lawOdds(0, 0, 0, 1, true), 24, 25);
        CHECK.part("law 1 of the cook", full.lawOdds(1, 0, 1, 0, false), full.lawOdds(1, 0, 1, 0, true), 0, 1);
        CHECK.due("fairest(0, 0, 1)", full.fairest(0, 0, 1), 3);
    }

    private static void alike() {
        // arms as thick together: the cook takes the left one, which breaks
        LongerHalf x = Check.told(RULES + "bone h hen dry 24 left 1,9 right 9,1" + PEOPLE);
        law(x, 1, 0, 3, 0, 0, 0, 1, 2);
        law(x, 0, 1, 3, 0, 1, 1, 1, 2);
        // pressed it bends, so c never wins: he takes the left one, and d the right
        LongerHalf y = Check.told(RULES + "bone h hen dry 24 left 9,9 right 1,9" + PEOPLE);
        law(y, 3, 2, 3, 1, 1, 0, 1, 2);
        // always three: all laws alike
        LongerHalf z = Check.told(RULES + "bone h hen dry 24 left 1,9 right 1,9" + PEOPLE);
        law(z, 0, 2, 0, 0, 0, 0, 0, 1);
        // p never wins by lot but half: 0, 0, 0, and nothing nearer
        LongerHalf w = Check.told(RULES.replace("flaw 0", "flaw 40") + "bone h hen dry 24 left 3,9 right 3,9" + PEOPLE);
        // a FLAW in the other one's place 0 alone: 40 in a hundred, one of four places
        CHECK.part("law 0", w.lawOdds(0, 0, 0, 2, false), w.lawOdds(0, 0, 0, 2, true), 1, 10);
        CHECK.part("law 3", w.lawOdds(3, 0, 0, 2, false), w.lawOdds(3, 0, 0, 2, true), 1, 10);
        CHECK.due("fairest, the first such", w.fairest(0, 0, 2), 0);
    }

    private static void wrongInputs() {
        LongerHalf x = Check.told(Texts.FULL);
        int[][] wrong = {{3, 0, 1}, {-1, 0, 1}, {0, 0, 0}, {0, 4, 0}, {0, 0, 4}, {0, -1, 0}, {0, 0, -1}};
        for (int[] w : wrong) {
            CHECK.refused(x, "curve()", x.curve(w[0], w[1], w[2], 25, true), 1);
            CHECK.refused(x, "bestDay()", x.bestDay(w[0], w[1], w[2]), 1);
            CHECK.refused(x, "lawOdds()", x.lawOdds(0, w[0], w[1], w[2], true), 1);
            CHECK.refused(x, "fairest()", x.fairest(w[0], w[1], w[2]), 1);
        }
        CHECK.refused(x, "curve() of 25", x.curve(0, 0, 1, 25, true), 2);
        CHECK.refused(x, "curve() of -1", x.curve(0, 0, 1, -1, true), 2);
        CHECK.refused(x, "lawOdds(4)", x.lawOdds(4, 0, 0, 1, true), 1);
        CHECK.refused(x, "lawOdds(-1)", x.lawOdds(-1, 0, 0, 1, true), 1);
        x.fairest(0, 0, 1);
        CHECK.due("trouble()", x.trouble(), 0);
    }
}
