/** Promise 30: let, by LET of terms III. */
public final class Promise30Test {
    private static final Cases C = new Cases(Promise30Test.class);

    public static void main(String[] args) throws ReflectiveOperationException {
        C.run();
    }

    static void whichPeople() {
        C.edges(Texts.FULL, 1, "let() p", 1, 3, (x, v) -> x.let(v, 0));
        C.edges(Texts.FULL, 1, "let() q", 0, 2, (x, v) -> x.let(3, v));
    }

    static void unlike() {
        LongerHalf x = Check.told(Texts.FULL);
        for (int p = 0; p < 4; p++) {
            int like = p;
            C.refuses(x, 1, "let() of one with himself", () -> x.let(like, like));
        }
    }

    private static LongerHalf wishes(int a, int b, String fors) {
        return Check.told(Texts.LEAST.replace("person a plain force 1 hold 1 wish 1",
                "person a plain force 1 hold 1 wish " + a).replace("person b plain force 1 hold 1 wish 1",
                "person b plain force 1 hold 1 wish " + b) + fors);
    }

    private static void let(LongerHalf x, int due) {
        C.due("let(0, 1)", x.let(0, 1), due);
        C.due("let(1, 0)", x.let(1, 0), due);
        C.due("trouble()", x.trouble(), 0);
    }

    static void theLesserNumberIfAlike() {
        let(wishes(0, 0, ""), 0);
        let(wishes(99, 99, ""), 0);
        let(wishes(5, 3, ";for b a 2"), 0);
    }

    static void byOneMore() {
        let(wishes(5, 6, ""), 1);
        let(wishes(6, 5, ""), 0);
        let(wishes(5, 3, ";for b a 3"), 1);
        let(wishes(3, 5, ";for a b 3"), 0);
    }

    /** What a tells for b comes if a wins. */
    static void whatIsToldForOthersByHim() {
        let(wishes(0, 0, ";for a b 1"), 0);
        let(wishes(0, 0, ";for b a 1"), 1);
        let(wishes(0, 0, ";for a b 1;for b a 2"), 1);
    }
}
