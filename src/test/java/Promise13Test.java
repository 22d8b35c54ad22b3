/** Promise 13: flawed, by a FLAW of terms II. */
public final class Promise13Test {
    private static final Cases C = new Cases(Promise13Test.class);

    public static void main(String[] args) throws ReflectiveOperationException {
        C.run();
    }

    private static void flaw(String left, String right, int hp, int hq, int at, int due) {
        LongerHalf x = Check.told(Texts.brittle(left, right));
        C.due(left + " at " + hp + ", " + right + " at " + hq + ", FLAW " + at,
                x.flawed(0, 0, hp, 1, hq, 2, at / 10, at % 10), due);
        C.due("trouble()", x.trouble(), 0);
    }

    static void asAPullIsRefused() {
        C.edgesOfPull("flawed()", (x, b, p, hp, q, hq, moves) -> x.flawed(b, p, hp, q, hq, moves, 0, 0));
    }

    static void whichPlaceOfWhichArm() {
        C.edges(Texts.FULL, 1, "flawed() arm", 0, 1, (x, v) -> x.flawed(0, 0, 1, 1, 1, 2, v, 0));
        C.edges(Texts.FULL, 1, "flawed() left", 0, 1, (x, v) -> x.flawed(0, 0, 1, 1, 1, 2, 0, v));
        C.edges(Texts.FULL, 1, "flawed() right", 0, 2, (x, v) -> x.flawed(0, 0, 1, 1, 1, 2, 1, v));
    }

    static void aPlaceThatIsNoneAheadOfAHoldThatIsNone() {
        LongerHalf x = Check.told(Texts.FULL);
        C.refuses(x, 1, "no place, no hold", () -> x.flawed(0, 0, 3, 1, 1, 2, 0, 2));
        C.refuses(x, 1, "no arm, nobody such moves", () -> x.flawed(0, 0, 1, 1, 1, 4, 2, 0));
    }

    /** FORCE 2, held at 1. */
    static void halfTheStrengthDownwards() {
        flaw("4,9", "9,9", 1, 1, 0, 3);
        flaw("3,9", "9,9", 1, 1, 0, 1);
        flaw("2,9", "9,9", 1, 1, 0, 1);
        flaw("9,9", "4,9", 1, 1, 10, 3);
        flaw("9,9", "3,9", 1, 1, 10, 0);
    }

    static void ofThatPlaceAlone() {
        flaw("3,9", "9,9", 1, 1, 1, 3);
        flaw("3,9", "9,9", 1, 1, 10, 3);
        flaw("9,3", "9,9", 2, 1, 1, 1);
        flaw("9,3", "9,9", 2, 1, 0, 3);
    }

    /** 1 and a thumb of 3 are 4, half of which bears 2; half of each would bear 1. */
    static void ofThicknessAndThumbTogether() {
        String text = Texts.of(Texts.rules(0, 25, 0, 3, 0), Texts.hen("h", "1,9", "9,9"), Texts.person("a", "plain", 1, 1),
                Texts.person("d", "cheat", 1, 1));
        C.due("thumb 3", Check.told(text).flawed(0, 1, 1, 0, 1, 2, 0, 0), 3);
        C.due("thumb 2", Check.told(text.replace("thumb 3", "thumb 2")).flawed(0, 1, 1, 0, 1, 2, 0, 0), 1);
    }

    /** Half of 1 is none: ahead of 12 by 1 on the other arm, and of 6 by 1 on its own. */
    static void withoutAnyStrengthAheadOfAllOthers() {
        flaw("1,9", "1,1,1,1,1,1", 1, 6, 0, 1);
        flaw("1,1,1,1,1,1", "1,9", 6, 1, 10, 0);
        flaw("1,1,1", "1,1,1", 3, 3, 2, 1);
        flaw("1,1,1", "1,1,1", 3, 3, 12, 0);
    }

    static void withoutStrengthAndWithoutStrain() {
        flaw("9,1", "9,9", 1, 1, 1, 3);
        flaw("9,1", "1,9", 1, 1, 1, 0);
    }

    static void fromThreeToOneAndBack() {
        flaw("2,9", "2,9", 2, 2, 0, 1);
        flaw("2,9", "2,9", 2, 2, 10, 0);
        flaw("2,9", "2,9", 2, 2, 1, 2);
        flaw("2,9", "1,9", 1, 1, 0, 2);
    }

    static void whatBendsByDaysOrBoiledBendsWithAFlaw() {
        LongerHalf x = Check.told(Texts.brittle("1,1", "9,9").replace("bends 0", "bends 9").replace("dry 24", "dry 8"));
        C.due("too few days", x.flawed(0, 0, 2, 1, 1, 2, 0, 0), 3);
        LongerHalf y = Check.told(Texts.brittle("1,1", "9,9"));
        y.boil(0);
        C.due("boiled", y.flawed(0, 0, 2, 1, 1, 2, 0, 0), 3);
    }
}
