import java.util.Arrays;

/** Promise 24: turnAt, by TURNS of terms III. */
public final class Promise24Test {
    private static final Cases C = new Cases(Promise24Test.class);

    public static void main(String[] args) throws ReflectiveOperationException {
        C.run();
    }

    private static int[] turns(int people, int weeks) {
        LongerHalf x = Check.told(Texts.people(people));
        int[] pairs = new int[weeks];
        for (int i = 0; i < weeks; i++) {
            pairs[i] = x.turnAt(weeks, i);
        }
        return pairs;
    }

    static void weeks() {
        C.edges(Texts.FULL, 2, "turnAt()", 1, 9, (x, v) -> x.turnAt(v, 0));
    }

    static void whichPair() {
        for (int weeks : new int[] {1, 2, 9}) {
            C.edges(Texts.FULL, 1, "turnAt(" + weeks + ")", 0, weeks - 1, (x, v) -> x.turnAt(weeks, v));
        }
    }

    static void noKitchenAheadOfWeeksAndPair() {
        LongerHalf x = new LongerHalf();
        C.refuses(x, 1, "turnAt(10, 10)", () -> x.turnAt(10, 10));
        C.refuses(x, 1, "turnAt(0, -1)", () -> x.turnAt(0, -1));
    }

    static void weeksAheadOfThePair() {
        LongerHalf x = Check.told(Texts.FULL);
        C.refuses(x, 2, "turnAt(10, 10)", () -> x.turnAt(10, 10));
        C.refuses(x, 2, "turnAt(0, 0)", () -> x.turnAt(0, 0));
        C.refuses(x, 2, "turnAt(0, -1)", () -> x.turnAt(0, -1));
    }

    static void thePairAheadOfThatThereAreNone() {
        LongerHalf x = Check.told(Texts.people(3));
        C.refuses(x, 1, "turnAt(2, 2)", () -> x.turnAt(2, 2));
        C.refuses(x, 1, "turnAt(2, -1)", () -> x.turnAt(2, -1));
    }

    static void thereAreNone() {
        for (int people = 2; people <= 3; people++) {
            LongerHalf x = Check.told(Texts.people(people));
            for (int w = 2; w <= 9; w++) {
                int weeks = w;
                C.refuses(x, 6, "turnAt() of none", () -> x.turnAt(weeks, 0));
                C.refuses(x, 6, "turnAt() of none", () -> x.turnAt(weeks, weeks - 1));
            }
            C.due("one week", x.turnAt(1, 0), 1);
        }
    }

    private static void first(int people, int... due) {
        int[] got = turns(people, due.length);
        C.due(people + " people: " + Arrays.toString(got), Arrays.equals(got, due), true);
    }

    static void theFirstSuch() {
        first(2, 1);
        first(6, 1);
        first(4, 1, 23);
        first(4, 1, 23, 1, 23, 1, 23, 1, 23, 1);
        first(5, 1, 23, 4);
        first(5, 1, 23, 4, 12, 34);
        first(6, 1, 23, 45);
        first(6, 1, 23, 1, 45);
        first(6, 1, 23, 1, 23, 45, 1, 45, 23, 45);
    }

    /** Goes on from so many pairs by the least ones that serve, and asks whether turns are even at the end alone. */
    private static boolean goesOn(int[] pairs, int week, int people) {
        if (week == pairs.length) {
            int[] had = new int[people];
            for (int pair : pairs) {
                had[pair / 10]++;
                had[pair % 10]++;
            }
            Arrays.sort(had);
            return had[people - 1] - had[0] <= 1;
        }
        for (int pair = 1; pair < 10 * people; pair++) {
            boolean isPair = pair / 10 < pair % 10 && pair % 10 < people;
            if (isPair && (week == 0 || !share(pairs[week - 1], pair))) {
                pairs[week] = pair;
                if (goesOn(pairs, week + 1, people)) {
                    return true;
                }
            }
        }
        return false;
    }

    static void noOtherComesAheadOfIt() {
        for (int people = 4; people <= 6; people++) {
            for (int w = 1; w <= 9; w++) {
                int[] pairs = new int[w];
                C.due("there are such", goesOn(pairs, 0, people), true);
                first(people, pairs);
            }
        }
    }

    private static boolean share(int pair, int other) {
        return pair / 10 == other / 10 || pair / 10 == other % 10 || pair % 10 == other / 10 || pair % 10 == other % 10;
    }

    static void nobodyInTwoWeeksOneBehindTheOther() {
        for (int people = 4; people <= 6; people++) {
            for (int w = 2; w <= 9; w++) {
                int[] pairs = turns(people, w);
                for (int i = 1; i < w; i++) {
                    C.due("weeks " + i + " of " + Arrays.toString(pairs), share(pairs[i - 1], pairs[i]), false);
                }
            }
        }
    }

    static void allAsManyOrSomeOneMore() {
        for (int people = 4; people <= 6; people++) {
            for (int w = 1; w <= 9; w++) {
                int[] had = new int[people];
                for (int pair : turns(people, w)) {
                    had[pair / 10]++;
                    had[pair % 10]++;
                }
                Arrays.sort(had);
                C.due(w + " weeks of " + people, had[people - 1] - had[0] <= 1, true);
            }
        }
    }
}
