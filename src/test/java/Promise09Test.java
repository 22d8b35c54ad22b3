/** Promise 9: strength, by STRENGTH of terms II. */
public final class Promise09Test {
    private static final Cases C = new Cases(Promise09Test.class);
    private static final String PRESSED = Texts.of(Texts.rules(0, 25, 9, 3, 50), Texts.hen("h", "1,2,3", "9,9,9,9,9,9"),
            Texts.person("a", "plain", 1, 1), Texts.person("b", "cook", 1, 1), Texts.person("c", "child", 1, 1),
            Texts.person("d", "cheat", 1, 1));

    public static void main(String[] args) throws ReflectiveOperationException {
        C.run();
    }

    static void whichBone() {
        C.edges(Texts.FULL, 1, "strength()", 0, 2, (x, v) -> x.strength(v, 0, 0, 0));
    }

    static void whichArm() {
        C.edges(PRESSED, 1, "strength() arm", 0, 1, (x, v) -> x.strength(0, v, 0, 0));
    }

    static void whichPlace() {
        C.edges(PRESSED, 1, "strength() left", 0, 2, (x, v) -> x.strength(0, 0, v, 3));
        C.edges(PRESSED, 1, "strength() right", 0, 5, (x, v) -> x.strength(0, 1, v, 3));
    }

    static void whichPerson() {
        C.edges(PRESSED, 1, "strength() person", 0, 3, (x, v) -> x.strength(0, 0, 0, v));
    }

    static void aThumbPressesPlaces0And1Alone() {
        LongerHalf x = Check.told(PRESSED);
        C.due("place 0", x.strength(0, 0, 0, 3), 4);
        C.due("place 1", x.strength(0, 0, 1, 3), 5);
        C.due("place 2", x.strength(0, 0, 2, 3), 3);
        C.due("right place 1", x.strength(0, 1, 1, 3), 12);
        C.due("right place 2", x.strength(0, 1, 2, 3), 9);
        C.due("right place 5", x.strength(0, 1, 5, 3), 9);
    }

    static void nobodyPressesButACheat() {
        LongerHalf x = Check.told(PRESSED);
        for (int p = 0; p < 3; p++) {
            C.due("place 0, person " + p, x.strength(0, 0, 0, p), 1);
            C.due("place 1, person " + p, x.strength(0, 0, 1, p), 2);
        }
    }

    static void theLeast() {
        C.due("1 times 25 less 24", Check.told(Texts.brittle("1,1", "1,1")).strength(0, 0, 0, 0), 1);
    }

    static void theGreatest() {
        LongerHalf x = Check.told(Texts.of(Texts.rules(0, 60, 0, 99, 0), "bone h hen dry 0 left 9,9 right 9,9",
                Texts.person("a", "plain", 1, 1), Texts.person("b", "cheat", 1, 1)));
        C.due("9 times 60", x.strength(0, 1, 1, 0), 540);
        C.due("and a thumb of 99", x.strength(0, 1, 1, 1), 639);
    }

    static void byTheDaysOfNow() {
        LongerHalf x = Check.told(Texts.FULL);
        C.due("3 times 30 less 10", x.strength(0, 0, 1, 0), 60);
        x.dry(24);
        C.due("3 times 30 less 24", x.strength(0, 0, 1, 0), 18);
        x.undo();
        C.due("undone", x.strength(0, 0, 1, 0), 60);
    }

    static void ofABoiledOneAndOneThatIsGone() {
        LongerHalf x = Check.told(Texts.FULL);
        C.due("boiled", x.strength(2, 0, 0, 0), 21);
        x.pull(0, 0, 2, 1, 3, 2);
        C.due("gone", x.strength(0, 0, 1, 0), 60);
    }
}
