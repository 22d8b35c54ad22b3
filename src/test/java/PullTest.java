/** Promises 9 to 14: strength, strain, pulled, breaksAt, flawed, odds. */
public final class PullTest {
    private static final Check CHECK = new Check("PullTest");

    /** Toughness 25 less 24 days: a STRENGTH of 1 for each thickness. */
    private static final String BRITTLE = "kitchen bends 2 tough 25 jerk 0 thumb 3 flaw 50;";
    private static final String TWO = ";person a plain force 1 hold 2 wish 0;person b plain force 1 hold 2 wish 0"
            + ";person c cheat force 1 hold 2 wish 0";

    public static void main(String[] args) {
        strengths();
        strains();
        whoWins();
        bending();
        likePlaces();
        noStrength();
        halves();
        thumbsAndChildren();
        oddsOfFour();
        wrongInputs();
        CHECK.end();
    }

    private static void strengths() {
        LongerHalf x = Check.told(Texts.FULL);
        CHECK.due("strength(0, 1, 1, 1)", x.strength(0, 1, 1, 1), 20);
        CHECK.due("strength(0, 0, 1, 0)", x.strength(0, 0, 1, 0), 60);
        CHECK.due("strength(0, 0, 0, 3) pressed", x.strength(0, 0, 0, 3), 60);
        CHECK.due("strength(0, 1, 1, 3) pressed", x.strength(0, 1, 1, 3), 40);
        CHECK.due("strength(0, 1, 2, 3) too far out", x.strength(0, 1, 2, 3), 40);
        x.dry(4);
        CHECK.due("strength(0, 1, 2, 0) dried", x.strength(0, 1, 2, 0), 32);
        CHECK.due("trouble()", x.trouble(), 0);
        CHECK.refused(x, "strength(0, 0, 0, 4)", x.strength(0, 0, 0, 4), 1);
        CHECK.refused(x, "strength(0, 0, 2, 0)", x.strength(0, 0, 2, 0), 1);
        CHECK.refused(x, "strength(0, 2, 0, 0)", x.strength(0, 2, 0, 0), 1);
        CHECK.refused(x, "strength(5, 0, 0, 0)", x.strength(5, 0, 0, 0), 1);
    }

    private static void strains() {
        LongerHalf x = Check.told(Texts.FULL);
        CHECK.due("nearer by two", x.strain(0, 1, 1, 0, 2, 1, 3, 2), 60);
        CHECK.due("at the hold", x.strain(0, 1, 2, 0, 2, 1, 2, 1), 0);
        CHECK.due("p moves", x.strain(0, 0, 0, 0, 2, 1, 3, 0), 110);
        CHECK.due("p moves, q's arm", x.strain(0, 1, 0, 0, 2, 1, 3, 0), 90);
        CHECK.due("q moves", x.strain(0, 1, 0, 0, 2, 1, 3, 1), 140);
        CHECK.due("q moves, p's arm", x.strain(0, 0, 1, 0, 2, 1, 3, 1), 30);
        CHECK.due("both move", x.strain(0, 0, 1, 0, 2, 1, 3, 3), 80);
        CHECK.due("both move, right", x.strain(0, 1, 2, 0, 2, 1, 3, 3), 80);
        CHECK.due("a child moves", x.strain(0, 0, 0, 2, 1, 0, 1, 2), 65);
        CHECK.due("a child moves on the right", x.strain(0, 1, 0, 0, 1, 2, 2, 0), 80);
        CHECK.due("trouble()", x.trouble(), 0);
        CHECK.refused(x, "strain() of no place", x.strain(0, 1, 3, 0, 2, 1, 3, 2), 1);
        CHECK.refused(x, "strain() of no arm", x.strain(0, 2, 0, 0, 2, 1, 3, 2), 1);
        CHECK.refused(x, "strain() of no bone", x.strain(3, 0, 0, 0, 2, 1, 3, 2), 1);
        CHECK.refused(x, "strain() of like people", x.strain(0, 0, 0, 1, 2, 1, 3, 2), 1);
        CHECK.refused(x, "strain() of no person", x.strain(0, 0, 0, 0, 2, 4, 3, 2), 1);
        CHECK.refused(x, "strain() no left hold", x.strain(0, 0, 0, 0, 3, 1, 3, 2), 2);
        CHECK.refused(x, "strain() no right hold", x.strain(0, 0, 0, 0, 2, 1, 4, 2), 2);
        CHECK.refused(x, "strain() hold 0", x.strain(0, 0, 0, 0, 2, 1, 0, 2), 2);
        CHECK.refused(x, "strain() who moves", x.strain(0, 0, 0, 0, 2, 1, 3, 4), 2);
        CHECK.refused(x, "strain() who moves", x.strain(0, 0, 0, 0, 2, 1, 3, -1), 2);
        CHECK.refused(x, "strain() 1 ahead of 2", x.strain(0, 0, 2, 0, 0, 1, 9, 4), 1);
    }

    private static void whoWins() {
        LongerHalf x = Check.told(Texts.FULL);
        CHECK.due("the right arm breaks", x.pulled(0, 0, 2, 1, 3, 2), 0);
        CHECK.due("at 1", x.breaksAt(0, 0, 2, 1, 3, 2), 11);
        CHECK.due("the left arm breaks", x.pulled(0, 0, 2, 1, 1, 2), 1);
        CHECK.due("at 0", x.breaksAt(0, 0, 2, 1, 1, 2), 0);
        CHECK.due("a goose's in three", x.pulled(1, 0, 2, 1, 2, 2), 2);
        CHECK.due("nowhere", x.breaksAt(1, 0, 2, 1, 2, 2), -2);
        CHECK.due("a boiled one bends", x.pulled(2, 0, 2, 1, 2, 2), 3);
        CHECK.due("nowhere", x.breaksAt(2, 0, 2, 1, 2, 2), -2);
        CHECK.due("trouble() of -2", x.trouble(), 0);
        // left place 0: 60 by 40; with a jerk 110 by 40, more than the right arm's 60 by 20
        CHECK.due("p moves", x.pulled(0, 0, 2, 1, 3, 0), 0);
        CHECK.due("p moves against a shorter hold", x.breaksAt(0, 0, 2, 1, 2, 0), 0);
        x.pull(0, 0, 2, 1, 3, 2);
        CHECK.due("asked of one that is gone", x.pulled(0, 0, 2, 1, 3, 2), 0);
    }

    private static void bending() {
        // 2 times 29 is more than 28, less than 30
        String text = "kitchen bends 2 tough 30 jerk 0 thumb 0 flaw 0;bone h hen dry # left 1,1 right 1,1"
                + ";person a plain force 14 hold 1 wish 0;person b plain force 14 hold 2 wish 0";
        LongerHalf green = Check.told(text.replace("#", "1"));
        CHECK.due("dried too few days", green.pulled(0, 0, 1, 1, 2, 2), 3);
        LongerHalf dry = Check.told(text.replace("#", "2"));
        CHECK.due("dried as many days", dry.pulled(0, 0, 1, 1, 2, 2), 0);
        CHECK.due("strain 28, strength 28", dry.strain(0, 0, 0, 0, 1, 1, 1, 2), dry.strength(0, 0, 0, 0));
        CHECK.due("no strain is more", dry.pulled(0, 0, 1, 1, 1, 2), 3);
        dry.dry(1);
        CHECK.due("as much more on both arms", dry.pulled(0, 0, 1, 1, 1, 2), 2);
        dry.boil(0);
        CHECK.due("boiled", dry.pulled(0, 0, 1, 1, 2, 2), 3);
    }

    private static void likePlaces() {
        LongerHalf x = Check.told(BRITTLE + "bone h hen dry 24 left 2,1,9 right 9,9" + TWO);
        CHECK.due("4 by 2 and 2 by 1: at the least", x.breaksAt(0, 0, 2, 1, 1, 2), 0);
        CHECK.due("a flaw further out", x.flawed(0, 0, 2, 1, 1, 2, 0, 1), 1);
        LongerHalf y = Check.told(BRITTLE + "bone h hen dry 24 left 9,1,9 right 2,9" + TWO);
        CHECK.due("2 by 1 and 4 by 2 on both arms", y.pulled(0, 0, 2, 1, 2, 2), 2);
    }

    private static void noStrength() {
        LongerHalf x = Check.told(BRITTLE + "bone h hen dry 24 left 1,9 right 1,1,1,1,1,1" + TWO);
        CHECK.due("12 by 1 against 2 by 1", x.pulled(0, 0, 1, 1, 6, 2), 0);
        CHECK.due("12 by 1 against 2 by nothing", x.flawed(0, 0, 1, 1, 6, 2, 0, 0), 1);
        CHECK.due("2 by nothing on the right", x.flawed(0, 0, 2, 1, 1, 2, 1, 0), 0);
        CHECK.due("no strain by no strength", x.flawed(0, 0, 1, 1, 6, 2, 1, 5), 0);
        LongerHalf y = Check.told(BRITTLE + "bone h hen dry 24 left 9,9 right 9,1" + TWO);
        CHECK.due("nothing by nothing is not more", y.flawed(0, 0, 1, 1, 1, 2, 1, 1), 3);
    }

    private static void halves() {
        LongerHalf x = Check.told(BRITTLE + "bone h hen dry 24 left 1,9 right 5,9" + TWO);
        CHECK.due("thumb 3 and thickness 1: half of 4 is 2, not less than 2", x.flawed(0, 2, 1, 0, 1, 2, 0, 0), 3);
        CHECK.due("half of 5 downwards, 2 is not more", x.flawed(0, 2, 1, 0, 1, 2, 1, 0), 3);
        LongerHalf y = Check.told(BRITTLE + "bone h hen dry 24 left 3,9 right 9,9" + TWO);
        CHECK.due("half of 3 downwards, 2 is more", y.flawed(0, 0, 1, 1, 1, 2, 0, 0), 1);
        CHECK.due("without it", y.pulled(0, 0, 1, 1, 1, 2), 3);
        CHECK.due("a flaw elsewhere", y.flawed(0, 0, 1, 1, 1, 2, 0, 1), 3);
    }

    private static void thumbsAndChildren() {
        LongerHalf x = Check.told(Texts.FULL);
        // d presses his own arm alone: left 60 by 60 and 30 by 80
        CHECK.due("a cheat on the left", x.breaksAt(0, 3, 2, 1, 1, 2), -2);
        CHECK.due("a cheat on the right", x.breaksAt(0, 1, 2, 3, 1, 2), 0);
        // c moves: left 15 and 50 by 40
        CHECK.due("a child on the left", x.breaksAt(0, 2, 1, 0, 1, 2), 0);
        CHECK.due("a plain one there", x.breaksAt(0, 0, 1, 2, 2, 2), 11);
    }

    private static void oddsOfFour() {
        LongerHalf x = Check.told(Texts.FULL);
        int[] ups = {24, 0, 1, 0};
        int[] lows = {25, 1, 25, 1};
        for (int what = 0; what < 4; what++) {
            CHECK.part("odds of " + what, x.odds(0, 0, 2, 1, 3, 2, what, false), x.odds(0, 0, 2, 1, 3, 2, what, true),
                    ups[what], lows[what]);
        }
        LongerHalf y = Check.told(BRITTLE + "bone h hen dry 24 left 3,9 right 9,9" + TWO);
        // half of all, in one of four places
        CHECK.part("odds of right", y.odds(0, 0, 1, 1, 1, 2, 1, false), y.odds(0, 0, 1, 1, 1, 2, 1, true), 1, 8);
        CHECK.part("odds of bends", y.odds(0, 0, 1, 1, 1, 2, 3, false), y.odds(0, 0, 1, 1, 1, 2, 3, true), 7, 8);
        LongerHalf z = Check.told(Texts.LEAST);
        CHECK.part("without flaws", z.odds(0, 0, 1, 1, 1, 2, 3, false), z.odds(0, 0, 1, 1, 1, 2, 3, true), 1, 1);
        CHECK.due("trouble()", z.trouble(), 0);
    }

    private static void wrongInputs() {
        LongerHalf x = Check.told(Texts.FULL);
        int[][] wrong = {
            {3, 0, 1, 1, 1, 2, 1}, {-1, 0, 1, 1, 1, 2, 1}, {0, 4, 1, 1, 1, 2, 1}, {0, -1, 1, 1, 1, 2, 1},
            {0, 0, 1, 4, 1, 2, 1}, {0, 1, 1, 1, 1, 2, 1}, {0, 1, 9, 1, 9, 9, 1}, {0, 0, 0, 1, 1, 2, 2},
            {0, 0, 3, 1, 1, 2, 2}, {0, 0, 1, 1, 0, 2, 2}, {0, 0, 1, 1, 4, 2, 2}, {0, 0, 1, 1, 1, 4, 2},
            {0, 0, 1, 1, 1, -1, 2},
        };
        for (int[] w : wrong) {
            CHECK.refused(x, "pulled()", x.pulled(w[0], w[1], w[2], w[3], w[4], w[5]), w[6]);
            CHECK.refused(x, "breaksAt()", x.breaksAt(w[0], w[1], w[2], w[3], w[4], w[5]), w[6]);
            CHECK.refused(x, "flawed()", x.flawed(w[0], w[1], w[2], w[3], w[4], w[5], 0, 0), w[6]);
            CHECK.refused(x, "odds()", x.odds(w[0], w[1], w[2], w[3], w[4], w[5], 0, true), w[6]);
        }
        CHECK.refused(x, "flawed() no place", x.flawed(0, 0, 2, 1, 3, 2, 0, 2), 1);
        CHECK.refused(x, "flawed() no arm", x.flawed(0, 0, 9, 1, 3, 2, 2, 0), 1);
        CHECK.refused(x, "odds() of what", x.odds(0, 0, 2, 1, 3, 2, 4, true), 1);
        CHECK.refused(x, "odds() of what, ahead of 2", x.odds(0, 0, 9, 1, 3, 2, -1, true), 1);
    }
}
