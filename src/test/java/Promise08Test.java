/** Promise 8: person. */
public final class Promise08Test {
    private static final Cases C = new Cases(Promise08Test.class);

    public static void main(String[] args) throws ReflectiveOperationException {
        C.run();
    }

    static void whichPerson() {
        C.edges(Texts.FULL, 1, "person()", 0, 3, (x, v) -> x.person(v, 0));
        C.edges(Texts.people(2), 1, "person() of two", 0, 1, (x, v) -> x.person(v, 1));
        C.edges(Texts.people(6), 1, "person() of six", 0, 5, (x, v) -> x.person(v, 2));
    }

    static void what() {
        C.edges(Texts.FULL, 1, "person() what", 0, 6, (x, v) -> x.person(3, v));
    }

    static void leastAndMostForceHoldAndWish() {
        LongerHalf x = Check.told(Texts.of(Texts.RULES, Texts.HEN, "person a plain force 1 hold 1 wish 0",
                "person b cheat force 40 hold 6 wish 99"));
        int[][] due = {{0, 1, 1, 0}, {3, 40, 6, 99}};
        for (int p = 0; p < 2; p++) {
            for (int what = 0; what < 4; what++) {
                C.due("person(" + p + ", " + what + ")", x.person(p, what), due[p][what]);
            }
        }
    }

    /** The told hold, also where it is more than any arm has. */
    static void theHoldIsAsTold() {
        LongerHalf x = Check.told(Texts.brittle("1,1", "1,1"));
        C.due("person(0, 2)", x.person(0, 2), 6);
    }

    static void noPullsTold() {
        LongerHalf x = Check.told(Texts.LEAST);
        C.due("pulls", x.person(0, 4), 0);
        C.due("won", x.person(0, 5), 0);
    }

    static void allTwelvePullsTold() {
        LongerHalf x = Check.told(Texts.people(3) + Texts.more("won a b left", 0, 12));
        C.due("pulls of who won", x.person(0, 4), 12);
        C.due("won", x.person(0, 5), 12);
        C.due("pulls of who lost", x.person(1, 4), 12);
        C.due("won", x.person(1, 5), 0);
        C.due("pulls of the third", x.person(2, 4), 0);
    }

    static void winsByActs() {
        LongerHalf x = Check.told(Texts.of(Texts.BRITTLE, Texts.hen("h", "9,9", "1,9"), Texts.hen("i", "9,9", "1,9"),
                Texts.hen("j", "1,9", "1,9"), Texts.PAIR));
        C.due("none yet", x.person(0, 6), 0);
        C.due("pull()", x.pull(0, 0, 1, 1, 1, 2), 0);
        C.due("pull()", x.pull(1, 0, 1, 1, 1, 2), 0);
        C.due("THREE", x.pull(2, 0, 1, 1, 1, 2), 2);
        C.due("two", x.person(0, 6), 2);
        C.due("none", x.person(1, 6), 0);
        C.due("they are not told pulls", x.person(0, 4), 0);
        C.due("nor won of those", x.person(0, 5), 0);
    }
}
