/** Promise 33: owners, by OWNERS of terms III. */
public final class Promise33Test {
    private static final Cases C = new Cases(Promise33Test.class);

    public static void main(String[] args) throws ReflectiveOperationException {
        C.run();
    }

    private static String six(String left, String right) {
        return Texts.of(Texts.BRITTLE, Texts.hen("h", left, right)) + Texts.more("person # plain force 1 hold 1 wish 0", 0, 6);
    }

    static void whichPiece() {
        C.edges(Texts.FULL, 1, "owners()", 0, 1, (x, v) -> x.owners(v));
        C.edges(Texts.LEAST + ";piece left 0", 1, "owners() of one", 0, 0, (x, v) -> x.owners(v));
    }

    static void noPieceAtAll() {
        LongerHalf x = Check.told(Texts.LEAST);
        C.refuses(x, 1, "owners(0)", () -> x.owners(0));
    }

    static void nobody() {
        LongerHalf x = Check.told(Texts.LEAST + ";piece left 0");
        C.due("owners(0)", x.owners(0), 0);
        C.due("trouble()", x.trouble(), 0);
    }

    static void all() {
        C.due("owners(0)", Check.told(six("1,9", "9,9") + ";piece left 0").owners(0), 63);
        C.due("owners(0)", Check.told(six("9,9", "1,9") + ";piece right 0").owners(0), 63);
    }

    /** FORCE 3 by f, 2 by others: left 0 bears 2, so that f is there, and either has the knob. */
    static void whoHoldsTheOtherArm() {
        String text = six("2,9", "9,9") + ";piece left 0";
        C.due("all", Check.told(text.replace("f plain force 1", "f plain force 2")).owners(0), 63);
        // a cheat's thumb: his own arm bears it, so that he alone has the knob
        String pressed = Texts.of(Texts.rules(0, 25, 0, 9, 0), Texts.hen("h", "1,9", "1,9"),
                Texts.person("a", "plain", 1, 1), Texts.person("b", "cheat", 1, 1)) + ";piece left 0;piece right 0";
        C.due("the second, on the right", Check.told(pressed).owners(0), 2);
        C.due("the second, on the left", Check.told(pressed).owners(1), 2);
        C.due("the first", Check.told(pressed.replace("a plain", "a cheat").replace("b cheat", "b plain")).owners(0), 1);
    }

    /** Who has it in two of these is no less an owner than who has it in one, or in three. */
    static void howOftenDoesntMatter() {
        for (int bones = 1; bones <= 4; bones++) {
            StringBuilder text = new StringBuilder(Texts.BRITTLE);
            for (int i = 0; i < bones; i++) {
                text.append(';').append(Texts.hen("h" + (char) ('a' + i), "1,9", "9,9"));
            }
            LongerHalf x = Check.told(text + ";" + Texts.PAIR + ";piece left 0");
            C.due("knob(0) of " + bones, x.knob(0), 2 * bones);
            C.due("owners(0) of " + bones, x.owners(0), 3);
        }
    }

    static void asTheyAreNow() {
        LongerHalf x = Check.told(six("1,9", "9,9") + ";piece left 0");
        x.pull(0, 0, 1, 1, 1, 2);
        C.due("of a gone one", x.owners(0), 63);
        x.undo();
        x.boil(0);
        C.due("of a boiled one", x.owners(0), 0);
    }
}
