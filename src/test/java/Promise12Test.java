/** Promise 12: breaksAt. */
public final class Promise12Test {
    private static final Cases C = new Cases(Promise12Test.class);

    public static void main(String[] args) throws ReflectiveOperationException {
        C.run();
    }

    private static void breaks(String left, String right, int hp, int hq, int due) {
        LongerHalf x = Check.told(Texts.brittle(left, right));
        C.due(left + " at " + hp + ", " + right + " at " + hq, x.breaksAt(0, 0, hp, 1, hq, 2), due);
        C.due("trouble()", x.trouble(), 0);
    }

    static void refusedLikewise() {
        C.edgesOfPull("breaksAt()", LongerHalf::breaksAt);
    }

    static void theLeastPlaceOfEachArm() {
        breaks("1,9", "9,9", 1, 1, 0);
        breaks("9,9", "1,9", 1, 1, 10);
    }

    static void theGreatestPlaceOfEachArm() {
        breaks("9,9,9,9,9,1", "9,9", 6, 1, 5);
        breaks("9,9", "9,9,9,9,9,1", 1, 6, 15);
    }

    static void ofLikePlacesOfThatArmTheLeast() {
        // 6 by 3, 4 by 2, 2 by 1
        breaks("3,2,1", "9,9", 3, 1, 0);
        breaks("9,9", "9,2,1", 1, 3, 11);
    }

    static void nowhereIfItBends() {
        breaks("2,9", "2,9", 1, 1, -2);
        LongerHalf x = Check.told(Texts.FULL);
        C.due("boiled", x.breaksAt(2, 0, 1, 1, 1, 2), -2);
        C.due("trouble()", x.trouble(), 0);
    }

    static void nowhereIfItIsThree() {
        breaks("1,9", "1,9", 1, 1, -2);
        breaks("2,1", "9,1", 2, 2, -2);
    }
}
