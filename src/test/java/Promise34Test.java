/** Promise 34: wins, by a YEAR of terms III. */
public final class Promise34Test {
    private static final Cases C = new Cases(Promise34Test.class);

    public static void main(String[] args) throws ReflectiveOperationException {
        C.run();
    }

    static void whichPerson() {
        C.edges(Texts.FULL, 1, "wins()", 0, 3, (x, v) -> x.wins(v, 0, 1));
    }

    static void whichSeed() {
        C.edges(Texts.FULL, 2, "wins() seed", 0, 65536, (x, v) -> x.wins(0, v, 1));
    }

    static void howManySundays() {
        C.edges(Texts.FULL, 2, "wins() n", 0, 200, (x, v) -> x.wins(0, 0, v));
    }

    static void by1AheadOf2() {
        LongerHalf x = Check.told(Texts.FULL);
        C.refuses(x, 1, "no person, no seed", () -> x.wins(4, -1, 0));
        C.refuses(x, 1, "no person, no Sundays", () -> x.wins(-1, 0, 201));
    }

    static void noSundays() {
        C.due("wins()", Check.told(Texts.FULL).wins(0, 65536, 0), 0);
    }

    /** Each Sunday one wins, or it is THREE, or it bends. */
    static void allTwoHundredSundays() {
        LongerHalf x = Check.told(Texts.FULL);
        int all = x.spoilt(4711, 200, false) + x.spoilt(4711, 200, true);
        for (int p = 0; p < 4; p++) {
            all += x.wins(p, 4711, 200);
        }
        C.due("together", all, 200);
    }

    /** The right one always wins: SEED 0 draws 74, then 5,624 mod people, then 28,652 mod people less 1. */
    private static void firstSunday(int people, int winner) {
        LongerHalf x = Check.told(Texts.of(Texts.BRITTLE, Texts.hen("y", "1,9", "9,9"))
                + Texts.more("person # plain force 1 hold 1 wish 0", 0, people));
        for (int p = 0; p < people; p++) {
            C.due("wins(" + p + ") of " + people, x.wins(p, 0, 1), p == winner ? 1 : 0);
        }
    }

    static void whoComesToTheFirstsNumberOrAboveIsOneMore() {
        // 0 and 0: one more
        firstSunday(2, 1);
        // 2 and 0: below it
        firstSunday(3, 0);
        // 0 and 2: one more
        firstSunday(4, 3);
        // 4 and 0, 2 and 2
        firstSunday(5, 0);
        firstSunday(6, 3);
    }

    /** 74 mod bones: of two the first, of three the third. */
    static void whichBoneIsDrawn() {
        String first = Texts.hen("y", "1,9", "9,9") + ";" + Texts.hen("z", "9,9", "1,9");
        C.due("the first of two", Check.told(Texts.of(Texts.BRITTLE, first, Texts.PAIR)).wins(1, 0, 1), 1);
        String third = Texts.hen("x", "9,9", "1,9") + ";" + Texts.hen("y", "9,9", "1,9") + ";" + Texts.hen("z", "1,9", "9,9");
        C.due("the third of three", Check.told(Texts.of(Texts.BRITTLE, third, Texts.PAIR)).wins(1, 0, 1), 1);
    }

    /** The fourth DRAW is 51,790, 90 of a hundred; the fifth 17,641, place 1 of four. */
    static void belowFlaw() {
        C.due("90 is below 91", Check.told(Texts.flawed(91, "9,3", "9,9")).wins(1, 0, 1), 1);
        C.due("90 is not below 90", Check.told(Texts.flawed(90, "9,3", "9,9")).wins(1, 0, 1), 0);
        C.due("another place", Check.told(Texts.flawed(91, "7,9", "9,9")).wins(1, 0, 1), 0);
    }

    /** The fifth DRAW, 17,641, is 8 of eleven places: behind five of the left arm that is right 3. */
    static void theLeftArmsPlacesFirst() {
        String people = Texts.of(Texts.person("a", "plain", 1, 1), Texts.person("b", "plain", 1, 4));
        String rules = Texts.rules(0, 25, 0, 0, 91);
        C.due("right 3", Check.told(Texts.of(rules, Texts.hen("h", "9,9,9,9,9", "9,9,9,3,9,9"), people)).wins(0, 0, 1), 1);
        C.due("not right 2", Check.told(Texts.of(rules, Texts.hen("h", "9,9,9,9,9", "9,9,5,9,9,9"), people)).wins(0, 0, 1), 0);
    }

    private static LongerHalf three(int flaw) {
        return Check.told(Texts.of(Texts.rules(0, 25, 0, 0, flaw), Texts.hen("y", "1,9", "9,9"))
                + Texts.more("person # plain force 1 hold 1 wish 0", 0, 3));
    }

    /** Four DRAWS without a FLAW: from 51,790 on come 17,641, 12,409 mod 3 is 1, 13,231 mod 2 is 1, and one more. */
    static void theSecondSundayBehindFourDraws() {
        C.due("wins(0)", three(90).wins(0, 0, 2), 1);
        C.due("wins(2)", three(90).wins(2, 0, 2), 1);
    }

    /** Five DRAWS with one: from 17,641 on come 12,409, 13,231 mod 3 is 1, 9,344 mod 2 is 0. */
    static void theSecondSundayBehindFiveDraws() {
        C.due("wins(0)", three(91).wins(0, 0, 2), 2);
    }

    static void theGreatestSeedStaysAsItIs() {
        // 65,536 is followed by itself: mod 100 it is 36, mod 4 it is 0
        C.due("a FLAW in left 0", Check.told(Texts.flawed(37, "7,9", "9,9")).wins(1, 65536, 1), 1);
        C.due("none", Check.told(Texts.flawed(36, "7,9", "9,9")).wins(1, 65536, 1), 0);
        C.due("each Sunday", Check.told(Texts.flawed(37, "7,9", "9,9")).wins(1, 65536, 200), 200);
    }

    static void itIsNoAct() {
        LongerHalf x = Check.told(Texts.FULL);
        x.seed(77);
        String before = Cases.shown(x);
        x.wins(0, 5, 200);
        C.due("nothing has changed", Cases.shown(x).equals(before), true);
    }

    static void goneOnesAndGoosesToo() {
        LongerHalf x = Check.told(Texts.brittle("1,9", "9,9"));
        x.pull(0, 0, 1, 1, 1, 2);
        C.due("gone", x.wins(0, 0, 9) + x.wins(1, 0, 9), 9);
        LongerHalf y = Check.told(Texts.brittle("1,9", "9,9").replace("h hen", "h goose"));
        C.due("a goose's", y.wins(0, 0, 9) + y.wins(1, 0, 9), 9);
        y.boil(0);
        C.due("a boiled goose's", y.wins(0, 0, 9) + y.wins(1, 0, 9), 0);
    }
}
