/** Promise 14: odds, by ODDS of terms II. */
public final class Promise14Test {
    private static final Cases C = new Cases(Promise14Test.class);

    public static void main(String[] args) throws ReflectiveOperationException {
        C.run();
    }

    private static void odds(LongerHalf x, int hp, int hq, int what, long up, long low) {
        C.part("odds() of " + what, x.odds(0, 0, hp, 1, hq, 2, what, false), x.odds(0, 0, hp, 1, hq, 2, what, true), up,
                low);
        C.due("trouble()", x.trouble(), 0);
    }

    static void ofWhat() {
        C.edges(Texts.FULL, 1, "odds() what", 0, 3, (x, v) -> x.odds(0, 0, 1, 1, 1, 2, v, true));
        C.edges(Texts.FULL, 1, "odds() what", 0, 3, (x, v) -> x.odds(0, 0, 1, 1, 1, 2, v, false));
    }

    static void asAPullIsRefused() {
        C.edgesOfPull("odds()", (x, b, p, hp, q, hq, moves) -> x.odds(b, p, hp, q, hq, moves, 0, true));
    }

    static void ofNothingSuchAheadOfAHoldThatIsNone() {
        LongerHalf x = Check.told(Texts.FULL);
        C.refuses(x, 1, "of nothing such, no hold", () -> x.odds(0, 0, 9, 1, 1, 2, 4, true));
    }

    static void noFlawAtAll() {
        LongerHalf x = Check.told(Texts.flawed(0, "1,9", "9,9"));
        int[] up = {0, 1, 0, 0};
        for (int what = 0; what < 4; what++) {
            odds(x, 1, 1, what, up[what], 1);
        }
    }

    /** Breaks if left 0, one of all places, has a FLAW; bends else. */
    static void eachOfFourPlacesIsAsLikely() {
        odds(Check.told(Texts.flawed(1, "3,9", "9,9")), 1, 1, 1, 1, 400);
        odds(Check.told(Texts.flawed(99, "3,9", "9,9")), 1, 1, 1, 99, 400);
        odds(Check.told(Texts.flawed(99, "3,9", "9,9")), 1, 1, 3, 301, 400);
        odds(Check.told(Texts.flawed(99, "3,9", "9,9")), 1, 1, 0, 0, 1);
    }

    static void eachOfTwelvePlacesIsAsLikely() {
        odds(Check.told(Texts.flawed(1, "3,9,9,9,9,9", "9,9,9,9,9,9")), 1, 1, 1, 1, 1200);
        odds(Check.told(Texts.flawed(99, "3,9,9,9,9,9", "9,9,9,9,9,9")), 1, 1, 1, 33, 400);
        odds(Check.told(Texts.flawed(99, "9,9,9,9,9,9", "3,9,9,9,9,9")), 1, 1, 0, 33, 400);
    }

    static void inLowestTerms() {
        odds(Check.told(Texts.flawed(50, "3,9", "9,9")), 1, 1, 1, 1, 8);
        odds(Check.told(Texts.flawed(50, "3,9", "9,9")), 1, 1, 3, 7, 8);
        odds(Check.told(Texts.flawed(20, "3,9", "3,9,9")), 1, 1, 0, 1, 25);
    }

    /** All four together: 4 by 2 on both arms is THREE, a FLAW in either place 0 ends that. */
    static void allFourTogetherAreOne() {
        LongerHalf x = Check.told(Texts.flawed(80, "2,9", "2,9"));
        odds(x, 2, 2, 0, 1, 5);
        odds(x, 2, 2, 1, 1, 5);
        odds(x, 2, 2, 2, 3, 5);
        odds(x, 2, 2, 3, 0, 1);
    }

    static void whatBendsAnyhowBendsForSure() {
        LongerHalf x = Check.told(Texts.flawed(99, "1,1", "1,1"));
        x.boil(0);
        odds(x, 2, 1, 3, 1, 1);
        odds(x, 2, 1, 0, 0, 1);
        odds(x, 2, 1, 1, 0, 1);
        odds(x, 2, 1, 2, 0, 1);
    }
}
