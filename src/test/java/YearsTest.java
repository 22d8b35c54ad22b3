/** Promises 34 and 35: wins, spoilt. */
public final class YearsTest {
    private static final Check CHECK = new Check("YearsTest");
    private static int seed;

    public static void main(String[] args) {
        byHand();
        byDraws();
        wrongInputs();
        CHECK.end();
    }

    private static void byHand() {
        LongerHalf x = Check.told(Texts.FULL);
        CHECK.due("wins(0, 0, 0)", x.wins(0, 0, 0), 0);
        CHECK.due("spoilt(0, 0, true)", x.spoilt(0, 0, true), 0);
        CHECK.due("wins(0, 0, 1)", x.wins(0, 0, 1), 0);
        CHECK.due("spoilt(0, 1, true)", x.spoilt(0, 1, true), 1);
        CHECK.due("wins(1, 0, 2)", x.wins(1, 0, 2), 1);
        CHECK.due("spoilt(0, 2, false)", x.spoilt(0, 2, false), 0);
        CHECK.due("size(10): no act", x.size(10), 0);
        CHECK.due("size(11): no act", x.size(11), 0);
        CHECK.due("person(1, 6): no act", x.person(1, 6), 0);
        CHECK.due("trouble()", x.trouble(), 0);
    }

    private static int draw(int mod) {
        seed = (75 * seed + 74) % 65537;
        return seed % mod;
    }

    /** Draws a YEAR by what flawed() and pulled() answer: WINS, then THREE, then BENDS. */
    private static int[] year(LongerHalf x, int start, int n) {
        int[] came = new int[8];
        seed = start;
        for (int i = 0; i < n; i++) {
            int b = draw(x.size(5));
            int p = draw(x.size(6));
            int q = draw(x.size(6) - 1);
            q += q >= p ? 1 : 0;
            int left = x.bone(b, 2);
            int hp = Math.min(left, x.person(p, 2));
            int hq = Math.min(x.bone(b, 3), x.person(q, 2));
            int what = x.pulled(b, p, hp, q, hq, 2);
            if (draw(100) < x.size(4)) {
                int f = draw(left + x.bone(b, 3));
                what = f < left ? x.flawed(b, p, hp, q, hq, 2, 0, f) : x.flawed(b, p, hp, q, hq, 2, 1, f - left);
            }
            came[what == 0 ? p : what == 1 ? q : 4 + what]++;
        }
        return came;
    }

    private static void byDraws() {
        LongerHalf x = Check.told(Texts.FULL.replace("flaw 20", "flaw 60"));
        x.seed(9);
        for (int start : new int[] {0, 1, 77, 4711, 65535, 65536}) {
            for (int n : new int[] {1, 52, 200}) {
                int[] due = year(x, start, n);
                for (int p = 0; p < 4; p++) {
                    CHECK.due("wins(" + p + ", " + start + ", " + n + ")", x.wins(p, start, n), due[p]);
                }
                CHECK.due("spoilt(" + start + ", " + n + ", false)", x.spoilt(start, n, false), due[6]);
                CHECK.due("spoilt(" + start + ", " + n + ", true)", x.spoilt(start, n, true), due[7]);
            }
            x.pull(0, 0, 2, 1, 3, 2);
        }
        CHECK.due("a gone one is drawn, too", x.bone(0, 4), 1);
    }

    private static void wrongInputs() {
        LongerHalf none = new LongerHalf();
        CHECK.refused(none, "wins(0, -1, 0)", none.wins(0, -1, 0), 1);
        CHECK.refused(none, "spoilt(-1, 0)", none.spoilt(-1, 0, true), 1);
        LongerHalf x = Check.told(Texts.FULL);
        CHECK.refused(x, "wins(4, 0, 1)", x.wins(4, -1, 1), 1);
        CHECK.refused(x, "wins(-1, 0, 1)", x.wins(-1, 0, 1), 1);
        int[][] wrong = {{-1, 0}, {65537, 0}, {0, -1}, {0, 201}};
        for (int[] w : wrong) {
            CHECK.refused(x, "wins(0, " + w[0] + ", " + w[1] + ")", x.wins(0, w[0], w[1]), 2);
            CHECK.refused(x, "spoilt(" + w[0] + ", " + w[1] + ")", x.spoilt(w[0], w[1], false), 2);
        }
    }
}
