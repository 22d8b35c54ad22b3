/** Promise 29: thumbs, by THUMBS of terms III. */
public final class Promise29Test {
    private static final Cases C = new Cases(Promise29Test.class);

    public static void main(String[] args) throws ReflectiveOperationException {
        C.run();
    }

    /** Of a, who cheats by so many in a hundred, thumb and fair in tenths. */
    private static void thumbs(int won, int lost, String cheats, long up, long low) {
        LongerHalf x = Check.told(Texts.LEAST + Texts.more("won a b left", 0, won) + Texts.more("won b a left", 0, lost)
                + ";cheats a " + cheats);
        C.part("thumbs(0)", x.thumbs(0, false), x.thumbs(0, true), up, low);
        C.due("trouble()", x.trouble(), 0);
    }

    static void whichPerson() {
        String all = Texts.people(6) + Texts.more("cheats # 1 thumb 1 fair 1", 0, 6);
        C.edges(all, 1, "thumbs()", 0, 5, (x, v) -> x.thumbs(v, true));
        C.edges(all, 1, "thumbs()", 0, 5, (x, v) -> x.thumbs(v, false));
    }

    static void itIsntToldThatHeMayCheat() {
        LongerHalf x = Check.told(Texts.FULL);
        for (int p = 0; p < 3; p++) {
            int who = p;
            C.refuses(x, 6, "thumbs(" + p + ")", () -> x.thumbs(who, true));
            C.refuses(x, 6, "thumbs(" + p + ")", () -> x.thumbs(who, false));
        }
        C.allows(x, "thumbs(3)", () -> x.thumbs(3, true));
    }

    /** A cheat by KIND of whom nothing is told, and a plain one of whom it is. */
    static void theKindTellsNothing() {
        LongerHalf x = Check.told(Texts.LEAST.replace("a plain", "a cheat") + ";cheats b 50 thumb 8 fair 5");
        C.refuses(x, 6, "thumbs(0)", () -> x.thumbs(0, true));
        C.allows(x, "thumbs(1)", () -> x.thumbs(1, true));
    }

    static void withoutPullsAsTold() {
        thumbs(0, 0, "0 thumb 9 fair 1", 0, 1);
        thumbs(0, 0, "1 thumb 9 fair 1", 1, 100);
        thumbs(0, 0, "50 thumb 9 fair 1", 1, 2);
        thumbs(0, 0, "99 thumb 9 fair 1", 99, 100);
    }

    static void noneInAHundredIsNeverMore() {
        thumbs(12, 0, "0 thumb 9 fair 1", 0, 1);
    }

    static void whatHeWonAndLost() {
        thumbs(1, 0, "50 thumb 9 fair 1", 9, 10);
        thumbs(0, 1, "50 thumb 9 fair 1", 1, 10);
        thumbs(1, 1, "50 thumb 8 fair 5", 16, 41);
        thumbs(3, 3, "20 thumb 5 fair 5", 1, 5);
    }

    static void allTwelve() {
        long ninth = 282429536481L;
        thumbs(12, 0, "99 thumb 9 fair 1", 99 * ninth, 99 * ninth + 1);
        thumbs(0, 12, "1 thumb 9 fair 1", 1, 1 + 99 * ninth);
        thumbs(12, 0, "50 thumb 1 fair 9", 1, ninth + 1);
    }
}
