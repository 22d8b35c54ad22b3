/** Promises 23 and 24: turnsOf, turnAt. */
public final class TurnsTest {
    private static final Check CHECK = new Check("TurnsTest");

    public static void main(String[] args) {
        firsts();
        rules();
        wrongInputs();
        CHECK.end();
    }

    private static LongerHalf people(int count) {
        return Check.told(Texts.people(count));
    }

    private static void turns(int people, int... pairs) {
        LongerHalf x = people(people);
        CHECK.due(people + ": turnsOf(" + pairs.length + ")", x.turnsOf(pairs.length), 1);
        for (int i = 0; i < pairs.length; i++) {
            CHECK.due(people + ": turnAt(" + pairs.length + ", " + i + ")", x.turnAt(pairs.length, i), pairs[i]);
        }
    }

    private static void firsts() {
        turns(2, 1);
        turns(3, 1);
        turns(4, 1, 23, 1, 23, 1, 23, 1, 23, 1);
        turns(5, 1, 23, 4);
        turns(5, 1, 23, 1, 24);
        turns(5, 1, 23, 4, 12, 34);
        turns(5, 1, 23, 1, 24, 1, 34, 2, 34);
        turns(6, 1, 23, 45);
        turns(6, 1, 23, 1, 45);
        turns(6, 1, 23, 1, 23, 45, 1, 45, 23, 45);
        for (int w = 2; w <= 9; w++) {
            CHECK.due("2: turnsOf(" + w + ")", people(2).turnsOf(w), 0);
            CHECK.due("3: turnsOf(" + w + ")", people(3).turnsOf(w), 0);
        }
    }

    private static void rules() {
        for (int n = 4; n <= 6; n++) {
            LongerHalf x = people(n);
            for (int w = 1; w <= 9; w++) {
                int[] had = new int[n];
                int before = -1;
                for (int i = 0; i < w; i++) {
                    int pair = x.turnAt(w, i);
                    int p = pair / 10;
                    int q = pair % 10;
                    had[p]++;
                    had[q]++;
                    boolean again = before >= 0
                            && (p == before / 10 || p == before % 10 || q == before / 10 || q == before % 10);
                    CHECK.due("in two weeks one behind the other", again, false);
                    CHECK.due("the lesser first", p < q, true);
                    before = pair;
                }
                int least = java.util.Arrays.stream(had).min().getAsInt();
                int most = java.util.Arrays.stream(had).max().getAsInt();
                CHECK.due("as many, or one more", most - least <= 1, true);
            }
        }
    }

    private static void wrongInputs() {
        LongerHalf none = new LongerHalf();
        CHECK.refused(none, "turnsOf(0) without a kitchen", none.turnsOf(0), 1);
        CHECK.refused(none, "turnAt(0, 0) without a kitchen", none.turnAt(0, 0), 1);
        LongerHalf two = people(2);
        for (int w : new int[] {0, 10, -1}) {
            CHECK.refused(two, "turnsOf(" + w + ")", two.turnsOf(w), 2);
            CHECK.refused(two, "turnAt(" + w + ", -1)", two.turnAt(w, -1), 2);
        }
        CHECK.refused(two, "turnAt(2, 2)", two.turnAt(2, 2), 1);
        CHECK.refused(two, "turnAt(2, -1)", two.turnAt(2, -1), 1);
        CHECK.refused(two, "turnAt(2, 1)", two.turnAt(2, 1), 6);
        CHECK.refused(two, "turnAt(1, 1)", two.turnAt(1, 1), 1);
        CHECK.due("turnsOf(2)", two.turnsOf(2), 0);
        CHECK.due("trouble() of 0", two.trouble(), 0);
        CHECK.due("turnAt(1, 0)", two.turnAt(1, 0), 1);
        CHECK.due("trouble()", two.trouble(), 0);
    }
}
