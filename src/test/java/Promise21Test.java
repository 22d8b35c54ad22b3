/** Promise 21: lawOdds, by LAWS of terms III. */
public final class Promise21Test {
    private static final Cases C = new Cases(Promise21Test.class);
    private static final String PEOPLE = Texts.of(Texts.person("a", "plain", 1, 1), Texts.person("b", "cook", 1, 1),
            Texts.person("c", "plain", 1, 1));

    public static void main(String[] args) throws ReflectiveOperationException {
        C.run();
    }

    private static LongerHalf bone(String left, String right) {
        return Check.told(Texts.of(Texts.BRITTLE, Texts.hen("h", left, right), PEOPLE));
    }

    /** What each LAW gives p: up by low of laws 0, 1, 2, then of 3. */
    private static void laws(LongerHalf x, int p, int q, long... due) {
        for (int law = 0; law < 4; law++) {
            C.part("lawOdds(" + law + ") of " + p + " and " + q, x.lawOdds(law, 0, p, q, false),
                    x.lawOdds(law, 0, p, q, true), due[2 * law], due[2 * law + 1]);
        }
    }

    static void asAPairIsRefused() {
        for (int law = 0; law < 4; law++) {
            int one = law;
            C.edgesOfPair("lawOdds()", (x, b, p, q) -> x.lawOdds(one, b, p, q, true));
        }
    }

    static void noSuchLaw() {
        C.edges(Texts.FULL, 1, "lawOdds()", 0, 3, (x, v) -> x.lawOdds(v, 0, 0, 1, true));
        C.edges(Texts.FULL, 1, "lawOdds()", 0, 3, (x, v) -> x.lawOdds(v, 0, 0, 1, false));
    }

    /** The left arm breaks: who has the right one wins. */
    static void whoChoosesTakesTheSideOfGreaterOdds() {
        laws(bone("1,9", "9,9"), 0, 2, 0, 1, 1, 1, 0, 1, 1, 2);
        laws(bone("9,9", "1,9"), 0, 2, 1, 1, 1, 1, 0, 1, 1, 2);
    }

    /** THREE or bent by either side: all is alike, and nobody wins. */
    static void leftIfAlike() {
        laws(bone("1,9", "1,9"), 0, 2, 0, 1, 0, 1, 0, 1, 0, 1);
        // a cheat, who presses, wins on either side: he has the left arm if he chooses, and if the other one does
        LongerHalf x = Check.told(Texts.of(Texts.rules(0, 25, 0, 9, 40), Texts.hen("h", "1,9", "1,9,9"),
                Texts.person("a", "plain", 1, 1), Texts.person("d", "cheat", 1, 1)));
        laws(x, 1, 0, 1, 1, 1, 1, 1, 1, 1, 1);
    }

    /** p's ODDS by both sides are alike, q's are not: which side p takes shows in nothing but his own ODDS. */
    static void theOtherOneTakesLeftIfHisAreAlike() {
        // q never wins: he takes the left arm; p, then on the right, wins by a FLAW in left 0 alone
        LongerHalf x = Check.told(Texts.of(Texts.rules(0, 25, 0, 9, 40), Texts.hen("h", "3,9", "1,9,9"),
                Texts.person("d", "cheat", 1, 1), Texts.person("a", "plain", 1, 1)));
        laws(x, 0, 1, 1, 1, 1, 1, 2, 25, 27, 50);
    }

    /** All thicknesses together: 19 and 18, 10 and 10, 10 and 11. */
    static void aCookTakesTheThickerArm() {
        laws(bone("1,9,9", "9,9"), 1, 0, 0, 1, 0, 1, 0, 1, 1, 2);
        laws(bone("1,9", "9,2"), 1, 0, 0, 1, 1, 1, 0, 1, 1, 2);
    }

    /** 14 and 15 of six thicknesses each: of places that are there, and of no others. */
    static void aCookTakesTheThickerOfTheLongestArms() {
        laws(bone("9,1,1,1,1,1", "1,9,1,2,1,1"), 1, 0, 1, 1, 0, 1, 0, 1, 1, 2);
        laws(bone("9,1,1,1,1,1", "1,9,1,1,1,1"), 1, 0, 1, 1, 1, 1, 0, 1, 1, 2);
    }

    static void aCookTakesTheLeftArmIfAlike() {
        laws(bone("1,9", "9,1"), 1, 0, 0, 1, 0, 1, 0, 1, 1, 2);
        laws(bone("1,9", "9,1"), 0, 1, 0, 1, 1, 1, 1, 1, 1, 2);
    }

    /** On a longer arm he holds further out. */
    static void eachHoldsAsToldOnTheSideHeHas() {
        LongerHalf x = Check.told(Texts.of(Texts.BRITTLE, Texts.hen("h", "5,9", "5,9,9"), Texts.person("a", "plain", 1, 3),
                Texts.person("b", "plain", 1, 1)));
        // a on the right breaks his arm by 6 by 5; on the left he holds at 2, 4 by 5, and it bends
        laws(x, 0, 1, 0, 1, 0, 1, 0, 1, 0, 1);
        laws(x, 1, 0, 1, 1, 1, 1, 0, 1, 1, 2);
    }

    static void byLotHalfOfBoth() {
        LongerHalf x = Check.told(Texts.flawed(40, "3,9", "9,9").replace("hold 6", "hold 1"));
        C.part("lawOdds(3)", x.lawOdds(3, 0, 0, 1, false), x.lawOdds(3, 0, 0, 1, true), 1, 20);
    }

    static void nobodyMovesButChildren() {
        LongerHalf x = Check.told(Texts.of(Texts.rules(0, 25, 9, 0, 0), Texts.hen("h", "2,9", "2,9"), PEOPLE,
                Texts.person("d", "child", 1, 1)));
        laws(x, 0, 2, 0, 1, 0, 1, 0, 1, 0, 1);
        laws(x, 0, 3, 1, 1, 1, 1, 1, 1, 1, 1);
    }
}
