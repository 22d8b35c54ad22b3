/** Promise 16: rests, by GAME and REST of terms III. */
public final class Promise16Test {
    private static final Cases C = new Cases(Promise16Test.class);

    public static void main(String[] args) throws ReflectiveOperationException {
        C.run();
    }

    static void asAPairIsRefused() {
        C.edgesOfPair("rests()", LongerHalf::rests);
    }

    /** Where all bends neither could do better: every pair is a REST. */
    private static int boiled(String left, String right, String kindOfP, String kindOfQ) {
        LongerHalf x = Check.told(Texts.of(Texts.BRITTLE, Texts.hen("h", left, right).replace("hen", "boiled"),
                Texts.person("a", kindOfP, 1, 1), Texts.person("b", kindOfQ, 1, 1)));
        return x.rests(0, 0, 1);
    }

    static void theMostThereCanBe() {
        C.due("six places each", boiled("1,1,1,1,1,1", "1,1,1,1,1,1", "plain", "cook"), 144);
        C.due("a child", boiled("1,1,1,1,1,1", "1,1,1,1,1,1", "child", "cheat"), 72);
        C.due("two children", boiled("1,1,1,1,1,1", "1,1,1,1,1,1", "child", "child"), 36);
    }

    static void ofTheFewestChoices() {
        C.due("two children, two places each", boiled("1,1", "1,1", "child", "child"), 4);
        C.due("two places and three", boiled("1,1", "1,1,1", "plain", "child"), 12);
    }

    /** Held at 1 not moving 2 by 2 on each arm bends; all else breaks one's own arm. */
    static void one() {
        LongerHalf x = Check.told(Texts.of(Texts.rules(0, 25, 1, 0, 0), Texts.hen("h", "2,9", "2,9"), Texts.PAIR));
        // whoever breaks his own arm alone does no better, nor worse, than by bending: he wins neither way
        C.due("rests()", x.rests(0, 0, 1), byOdds(x));
    }

    private static double odds(LongerHalf x, int p, int q, int what) {
        int moves = p % 2 == 1 ? q % 2 == 1 ? 3 : 0 : q % 2 == 1 ? 1 : 2;
        long up = x.odds(0, 0, 1 + p / 2, 1, 1 + q / 2, moves, what, false);
        return (double) up / x.odds(0, 0, 1 + p / 2, 1, 1 + q / 2, moves, what, true);
    }

    /** Choices by number: twice the hold less 1, and one more if he moves. */
    private static int byOdds(LongerHalf x) {
        int rests = 0;
        for (int p = 0; p < 2 * x.bone(0, 2); p++) {
            for (int q = 0; q < 2 * x.bone(0, 3); q++) {
                boolean rest = true;
                for (int other = 0; other < 2 * x.bone(0, 2); other++) {
                    rest &= odds(x, other, q, 0) <= odds(x, p, q, 0);
                }
                for (int other = 0; other < 2 * x.bone(0, 3); other++) {
                    rest &= odds(x, p, other, 1) <= odds(x, p, q, 1);
                }
                rests += rest ? 1 : 0;
            }
        }
        return rests;
    }

    static void asManyAsByOdds() {
        String[][] arms = {{"1,1", "1,1"}, {"3,2,9", "3,9"}, {"2,9", "4,3,1"}, {"5,4,3,2", "6,4,2,2,1,1"}};
        for (String[] arm : arms) {
            LongerHalf x = Check.told(Texts.of(Texts.rules(0, 25, 2, 0, 37), Texts.hen("h", arm[0], arm[1]), Texts.PAIR));
            C.due("rests() of " + arm[0] + " and " + arm[1], x.rests(0, 0, 1), byOdds(x));
        }
    }

    static void byTheBoneOfNow() {
        LongerHalf x = Check.told(Texts.FULL);
        C.due("rests()", x.rests(0, 0, 1), 5);
        x.boil(0);
        C.due("rests() of a boiled one", x.rests(0, 0, 1), 24);
    }
}
