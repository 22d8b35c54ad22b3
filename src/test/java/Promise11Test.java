/** Promise 11: pulled, by what comes in terms II. */
public final class Promise11Test {
    private static final Cases C = new Cases(Promise11Test.class);

    public static void main(String[] args) throws ReflectiveOperationException {
        C.run();
    }

    private static int pulled(LongerHalf x, int hp, int hq) {
        return x.pulled(0, 0, hp, 1, hq, 2);
    }

    static void asAPullIsRefused() {
        C.edgesOfPull("pulled()", LongerHalf::pulled);
    }

    /** Left place 0: 80 by 1 times 60 less days; the right arm is thick. */
    private static LongerHalf dried(int bends, int days) {
        return Check.told(Texts.of(Texts.rules(bends, 60, 0, 0, 0), "bone h hen dry " + days + " left 1,1 right 9,9",
                Texts.person("a", "plain", 40, 1), Texts.person("b", "plain", 40, 1)));
    }

    static void bendsIfDriedFewerDays() {
        C.due("8 of 9 days", pulled(dried(9, 8), 1, 1), 3);
        C.due("9 of 9 days", pulled(dried(9, 9), 1, 1), 1);
        C.due("10 of 9 days", pulled(dried(9, 10), 1, 1), 1);
        C.due("0 of 1 day", pulled(dried(1, 0), 1, 1), 3);
        C.due("0 of 0 days", pulled(dried(0, 0), 1, 1), 1);
    }

    static void byTheDaysOfNow() {
        LongerHalf x = dried(9, 8);
        x.dry(1);
        C.due("one more day", pulled(x, 1, 1), 1);
        x.undo();
        C.due("undone", pulled(x, 1, 1), 3);
    }

    static void bendsIfBoiled() {
        LongerHalf x = dried(0, 24);
        C.due("not boiled", pulled(x, 1, 1), 1);
        x.boil(0);
        C.due("boiled", pulled(x, 1, 1), 3);
        C.due("told so", Check.told(Texts.FULL).pulled(2, 0, 2, 1, 2, 3), 3);
    }

    /** FORCE 2, one nearer. */
    static void bendsIfNoStrainIsMoreThanItsStrength() {
        C.due("2 by 3", pulled(Check.told(Texts.brittle("3,9", "9,9")), 1, 1), 3);
        C.due("2 by 2", pulled(Check.told(Texts.brittle("2,9", "9,9")), 1, 1), 3);
        C.due("2 by 1", pulled(Check.told(Texts.brittle("1,9", "9,9")), 1, 1), 1);
        C.due("right, 2 by 2", pulled(Check.told(Texts.brittle("9,9", "2,9")), 1, 1), 3);
        C.due("right, 2 by 1", pulled(Check.told(Texts.brittle("9,9", "1,9")), 1, 1), 0);
        C.due("2 by 2 on both arms", pulled(Check.told(Texts.brittle("2,9", "2,9")), 1, 1), 3);
    }

    static void aPlaceAtTheHoldOrBeyondBearsAll() {
        C.due("1 at the hold", pulled(Check.told(Texts.brittle("9,1", "9,1")), 1, 1), 3);
        C.due("1 nearer than the hold", pulled(Check.told(Texts.brittle("9,1", "9,1")), 2, 1), 1);
    }

    static void threeIfAsGreatOnBothArms() {
        C.due("2 by 1 and 2 by 1", pulled(Check.told(Texts.brittle("1,9", "1,9")), 1, 1), 2);
        C.due("4 by 2 and 2 by 1", pulled(Check.told(Texts.brittle("2,9", "1,9")), 2, 1), 2);
        C.due("4 by 2 and 2 by 1 at place 1", pulled(Check.told(Texts.brittle("2,9", "9,1")), 2, 2), 2);
        C.due("like places of both arms", pulled(Check.told(Texts.brittle("2,1", "1,1")), 2, 1), 2);
    }

    /** 6 by 5 is less than 4 by 3, 8 by 5 more; an arm on which none is more counts nothing. */
    static void elseWhereItIsGreatestTheOtherOneWins() {
        C.due("6 by 5 and 4 by 3", pulled(Check.told(Texts.brittle("5,9,9", "3,9")), 3, 2), 0);
        C.due("8 by 5 and 4 by 3", pulled(Check.told(Texts.brittle("5,9,9,9", "3,9")), 4, 2), 1);
        C.due("4 by 3 and 6 by 5", pulled(Check.told(Texts.brittle("3,9", "5,9,9")), 2, 3), 1);
        C.due("6 by 5 and 4 by 4", pulled(Check.told(Texts.brittle("5,9,9", "4,9")), 3, 2), 1);
    }

    static void aCheatPressesHisOwnArm() {
        String text = Texts.of(Texts.rules(0, 25, 0, 1, 0), Texts.hen("h", "1,9", "1,9"), Texts.person("a", "plain", 1, 1),
                Texts.person("d", "cheat", 1, 1));
        LongerHalf x = Check.told(text);
        C.due("on the right", x.pulled(0, 0, 1, 1, 1, 2), 1);
        C.due("on the left", x.pulled(0, 1, 1, 0, 1, 2), 0);
    }

    static void whoMovesStrainsHisOwnArm() {
        String text = Texts.of(Texts.rules(0, 25, 1, 0, 0), Texts.hen("h", "2,9", "2,9"), Texts.PAIR,
                Texts.person("c", "child", 1, 1));
        LongerHalf x = Check.told(text);
        int[] due = {1, 0, 3, 2};
        for (int moves = 0; moves < 4; moves++) {
            C.due("moves " + moves, x.pulled(0, 0, 1, 1, 1, moves), due[moves]);
        }
        C.due("a child on the left", x.pulled(0, 2, 1, 0, 1, 2), 1);
        C.due("a child on the right", x.pulled(0, 0, 1, 2, 1, 2), 0);
        C.due("a child, and the other one too", x.pulled(0, 0, 1, 2, 1, 0), 2);
    }

    static void allIsAskedOfAGoosesAndOfOneThatIsGone() {
        LongerHalf x = Check.told(Texts.FULL);
        C.due("a goose's", x.pulled(1, 0, 2, 1, 2, 2), 2);
        x.boil(1);
        C.due("a boiled goose's", x.pulled(1, 0, 2, 1, 2, 2), 3);
        x.pull(0, 0, 2, 1, 3, 2);
        C.due("gone", x.bone(0, 4), 1);
        C.due("asked as others", x.pulled(0, 0, 2, 1, 3, 2), 0);
    }

    static void askingChangesNothing() {
        LongerHalf x = Check.told(Texts.FULL);
        String before = Cases.shown(x);
        x.pulled(0, 0, 2, 1, 3, 2);
        C.due("nothing has changed", Cases.shown(x).equals(before), true);
    }
}
