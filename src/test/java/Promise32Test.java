/** Promise 32: knob, by KNOB of terms III. */
public final class Promise32Test {
    private static final Cases C = new Cases(Promise32Test.class);
    private static final String PIECES = ";piece left 0;piece left 1;piece right 0;piece right 5";

    public static void main(String[] args) throws ReflectiveOperationException {
        C.run();
    }

    static void whichPiece() {
        C.edges(Texts.FULL, 1, "knob()", 0, 1, (x, v) -> x.knob(v));
        C.edges(Texts.LEAST + PIECES, 1, "knob() of four", 0, 3, (x, v) -> x.knob(v));
    }

    static void noPieceAtAll() {
        LongerHalf x = Check.told(Texts.LEAST);
        C.refuses(x, 1, "knob(0)", () -> x.knob(0));
    }

    private static void knobs(LongerHalf x, int... due) {
        for (int piece = 0; piece < due.length; piece++) {
            C.due("knob(" + piece + ")", x.knob(piece), due[piece]);
            C.due("trouble()", x.trouble(), 0);
        }
    }

    static void noneIfItBendsOrIsThree() {
        knobs(Check.told(Texts.LEAST + PIECES), 0, 0, 0, 0);
        knobs(Check.told(Texts.brittle("1,9", "1,9") + PIECES), 0, 0, 0, 0);
    }

    /** Both pairs, left and right. */
    static void atWhichPlaceOfWhichArm() {
        knobs(Check.told(Texts.brittle("1,9", "9,9") + PIECES), 2, 0, 0, 0);
        knobs(Check.told(Texts.brittle("9,1", "9,9") + PIECES), 0, 2, 0, 0);
        knobs(Check.told(Texts.brittle("9,9", "1,9") + PIECES), 0, 0, 2, 0);
        knobs(Check.told(Texts.brittle("9,9", "9,9,9,9,9,1") + PIECES), 0, 0, 0, 2);
    }

    static void aPlaceThatNoBoneHas() {
        C.due("left 5 of arms of two", Check.told(Texts.brittle("1,9", "9,9") + ";piece left 5").knob(0), 0);
    }

    /** Five bones, six people: 30 pairs of each bone. */
    static void theMostThereCanBe() {
        StringBuilder text = new StringBuilder(Texts.BRITTLE);
        for (int i = 0; i < 5; i++) {
            text.append(';').append(Texts.hen("h" + (char) ('a' + i), "1,9", "9,9"));
        }
        text.append(Texts.more("person # plain force 1 hold 1 wish 0", 0, 6));
        C.due("knob(0)", Check.told(text + ";piece left 0").knob(0), 150);
    }

    static void goneOnesToo() {
        LongerHalf x = Check.told(Texts.brittle("1,9", "9,9") + PIECES);
        x.pull(0, 0, 1, 1, 1, 2);
        C.due("gone", x.bone(0, 4), 1);
        knobs(x, 2);
    }

    /** Held at 1: 2 by 2 on day 23, 2 by 1 on day 24. */
    static void asTheyAreNow() {
        LongerHalf x = Check.told(Texts.brittle("1,9", "9,9").replace("dry 24", "dry 23").replace("hold 6", "hold 1")
                + ";piece left 0");
        knobs(x, 0);
        x.dry(1);
        knobs(x, 2);
        x.boil(0);
        knobs(x, 0);
        x.undo();
        knobs(x, 2);
    }

    /** Of a and c, the child, the arm of the child gives way. */
    static void nobodyMovingButChildren() {
        LongerHalf x = Check.told(Texts.of(Texts.rules(0, 25, 9, 0, 0), Texts.hen("h", "2,9", "2,9"),
                Texts.person("a", "plain", 1, 1), Texts.person("b", "plain", 1, 1), Texts.person("c", "child", 1, 1)) + PIECES);
        knobs(x, 2, 0, 2, 0);
    }

    static void withoutFlaw() {
        C.due("a FLAW would break it", Check.told(Texts.flawed(99, "3,9", "9,9").replace("hold 6", "hold 1")
                + ";piece left 0").knob(0), 0);
    }

    static void aGoosesToo() {
        C.due("knob(0)", Check.told(Texts.brittle("1,9", "9,9").replace("h hen", "h goose") + ";piece left 0").knob(0), 2);
    }
}
