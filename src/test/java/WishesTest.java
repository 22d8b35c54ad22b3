/** Promises 30 to 33: let, worth, knob, owners. */
public final class WishesTest {
    private static final Check CHECK = new Check("WishesTest");

    public static void main(String[] args) {
        wishes();
        knobs();
        wrongInputs();
        CHECK.end();
    }

    private static void wishes() {
        LongerHalf x = Check.told(Texts.FULL);
        int[] worth = {9, 18, 8, 1};
        for (int p = 0; p < 4; p++) {
            CHECK.due("worth(" + p + ")", x.worth(p), worth[p]);
            for (int q = 0; q < 4; q++) {
                if (p != q) {
                    CHECK.due("let(" + p + ", " + q + ")", x.let(p, q), worth[p] > worth[q] ? p : q);
                }
            }
        }
        LongerHalf y = Check.told(Texts.LEAST + ";for a b 99;for b a 99");
        CHECK.due("let(0, 1) alike", y.let(0, 1), 0);
        CHECK.due("let(1, 0) alike", y.let(1, 0), 0);
        CHECK.due("worth(0)", y.worth(0), 100);
        CHECK.due("trouble()", y.trouble(), 0);
    }

    /** Counts by breaksAt() and told holds. */
    private static int[] search(LongerHalf x, int arm, int place) {
        int count = 0;
        int bits = 0;
        for (int b = 0; b < x.size(5); b++) {
            for (int p = 0; p < x.size(6); p++) {
                for (int q = 0; q < x.size(6); q++) {
                    int hp = Math.min(x.person(p, 2), x.bone(b, 2));
                    int hq = Math.min(x.person(q, 2), x.bone(b, 3));
                    if (p != q && x.breaksAt(b, p, hp, q, hq, 2) == 10 * arm + place) {
                        count++;
                        bits |= 1 << (arm == 0 ? q : p);
                    }
                }
            }
        }
        return new int[] {count, bits};
    }

    private static void knobs() {
        LongerHalf x = Check.told(Texts.FULL + ";piece left 5;piece right 0");
        CHECK.due("knob(0)", x.knob(0), 3);
        CHECK.due("owners(0)", x.owners(0), 13);
        CHECK.due("knob(1)", x.knob(1), 7);
        CHECK.due("owners(1)", x.owners(1), 11);
        CHECK.due("knob(2) of no such place", x.knob(2), 0);
        CHECK.due("owners(2)", x.owners(2), 0);
        int[] right = search(x, 1, 0);
        CHECK.due("knob(3)", x.knob(3), right[0]);
        CHECK.due("owners(3)", x.owners(3), right[1]);
        CHECK.due("trouble()", x.trouble(), 0);
        x.pull(0, 0, 2, 1, 3, 2);
        CHECK.due("bone(0, 4)", x.bone(0, 4), 1);
        CHECK.due("knob(0), the gone one too", x.knob(0), 3);
        x.boil(1);
        int[] left = search(x, 0, 0);
        CHECK.due("knob(1) as they are now", x.knob(1), left[0]);
        CHECK.due("fewer than before", left[0] < 7, true);
    }

    private static void wrongInputs() {
        LongerHalf none = new LongerHalf();
        CHECK.refused(none, "let(0, 1)", none.let(0, 1), 1);
        CHECK.refused(none, "worth(0)", none.worth(0), 1);
        CHECK.refused(none, "knob(0)", none.knob(0), 1);
        CHECK.refused(none, "owners(0)", none.owners(0), 1);
        LongerHalf x = Check.told(Texts.FULL);
        int[][] pairs = {{1, 1}, {4, 0}, {0, 4}, {-1, 0}, {0, -1}};
        for (int[] w : pairs) {
            CHECK.refused(x, "let(" + w[0] + ", " + w[1] + ")", x.let(w[0], w[1]), 1);
        }
        CHECK.refused(x, "worth(4)", x.worth(4), 1);
        CHECK.refused(x, "worth(-1)", x.worth(-1), 1);
        CHECK.refused(x, "knob(2)", x.knob(2), 1);
        CHECK.refused(x, "knob(-1)", x.knob(-1), 1);
        CHECK.refused(x, "owners(2)", x.owners(2), 1);
        CHECK.refused(x, "owners(-1)", x.owners(-1), 1);
    }
}
