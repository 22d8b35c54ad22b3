/** Promise 23: turnsOf, by TURNS of terms III. */
public final class Promise23Test {
    private static final Cases C = new Cases(Promise23Test.class);

    public static void main(String[] args) throws ReflectiveOperationException {
        C.run();
    }

    static void weeks() {
        C.edges(Texts.FULL, 2, "turnsOf()", 1, 9, (x, v) -> x.turnsOf(v));
        C.edges(Texts.people(2), 2, "turnsOf() of two", 1, 9, (x, v) -> x.turnsOf(v));
    }

    static void noKitchenAheadOfTheWeeks() {
        for (int w : new int[] {0, 1, 9, 10}) {
            LongerHalf x = new LongerHalf();
            C.refuses(x, 1, "turnsOf(" + w + ")", () -> x.turnsOf(w));
        }
    }

    /** Two, and three, can't but come again a week later. */
    static void twoOrThreePeople() {
        for (int people = 2; people <= 3; people++) {
            LongerHalf x = Check.told(Texts.people(people));
            C.due("one week of " + people, x.turnsOf(1), 1);
            for (int w = 2; w <= 9; w++) {
                C.due(w + " weeks of " + people, x.turnsOf(w), 0);
                C.due("trouble()", x.trouble(), 0);
            }
        }
    }

    static void fourToSixPeople() {
        for (int people = 4; people <= 6; people++) {
            LongerHalf x = Check.told(Texts.people(people));
            for (int w = 1; w <= 9; w++) {
                C.due(w + " weeks of " + people, x.turnsOf(w), 1);
            }
        }
    }

    static void askingChangesNothing() {
        LongerHalf x = Check.told(Texts.FULL);
        String before = Cases.shown(x);
        x.turnsOf(9);
        C.due("nothing has changed", Cases.shown(x).equals(before), true);
    }
}
