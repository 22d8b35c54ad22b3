/** Promises 25 to 29: hand, side, known, hens, thumbs. */
public final class HandTest {
    private static final Check CHECK = new Check("HandTest");
    private static final String C = ";person c plain force 1 hold 1 wish 1";

    public static void main(String[] args) {
        hands();
        sides();
        whoIsKnown();
        howManyHens();
        whoCheats();
        wrongInputs();
        CHECK.end();
    }

    private static String won(String line, int times) {
        return (";won " + line).repeat(times);
    }

    private static void hand(LongerHalf x, int p, long up, long low) {
        CHECK.part("hand(" + p + ")", x.hand(p, false), x.hand(p, true), up, low);
    }

    private static void hands() {
        LongerHalf x = Check.told(Texts.LEAST + C + won("a b left", 3) + won("b a right", 1));
        hand(x, 0, 5, 16);
        hand(x, 1, 15, 16);
        hand(x, 2, 1, 1);
        LongerHalf y = Check.told(Texts.LEAST + won("a b left", 12));
        hand(y, 0, 1, 4096);
        hand(y, 1, 1, 1);
        LongerHalf z = Check.told(Texts.LEAST + won("a b left", 6) + won("b a left", 6));
        // 924 and 1586 of 4,096
        hand(z, 0, 1255, 2048);
        CHECK.due("trouble()", z.trouble(), 0);
        // acts are not told pulls
        LongerHalf w = Check.told(Texts.FULL);
        w.pull(0, 0, 2, 1, 3, 2);
        hand(w, 0, 7, 64);
        hand(w, 1, 7, 8);
    }

    private static void sides() {
        LongerHalf x = Check.told(Texts.LEAST + won("a b left", 1) + won("b a right", 3));
        CHECK.part("side()", x.side(false), x.side(true), 15, 16);
        LongerHalf y = Check.told(Texts.LEAST);
        CHECK.part("side() of nothing", y.side(false), y.side(true), 1, 1);
        LongerHalf z = Check.told(Texts.LEAST + won("b a left", 3) + won("a b left", 4));
        CHECK.part("side() of left alone", z.side(false), z.side(true), 1, 128);
        CHECK.due("trouble()", z.trouble(), 0);
    }

    private static void whoIsKnown() {
        CHECK.due("four of four", Check.told(Texts.LEAST + won("a b left", 4)).known(), 0);
        CHECK.due("five of five", Check.told(Texts.LEAST + won("a b left", 5)).known(), 1);
        CHECK.due("the second", Check.told(Texts.LEAST + won("b a left", 5)).known(), 2);
        CHECK.due("two of them", Check.told(Texts.LEAST + C + won("a b left", 5) + won("c b left", 7)).known(), 5);
        // 37 of 512 is more than one in twenty, 9 of 256 is less
        CHECK.due("six of seven: 8 of 128", Check.told(Texts.LEAST + won("a b left", 6) + won("b a left", 1)).known(), 0);
        CHECK.due("seven of eight: 9 of 256", Check.told(Texts.LEAST + won("a b left", 7) + won("b a left", 1)).known(), 1);
    }

    private static void howManyHens() {
        LongerHalf x = Check.told(Texts.LEAST);
        int[][] due = {{1, 0}, {2, 1}, {3, 2}, {4, 2}, {5, 3}, {20, 5}, {1024, 10}, {1025, 11}, {524288, 19},
            {524289, 20}, {1000000, 20}};
        for (int[] d : due) {
            CHECK.due("hens(" + d[0] + ")", x.hens(d[0]), d[1]);
        }
        CHECK.due("trouble()", x.trouble(), 0);
    }

    private static void whoCheats() {
        LongerHalf x = Check.told(Texts.LEAST + won("a b left", 2) + won("b a right", 1)
                + ";cheats a 10 thumb 9 fair 5;cheats b 0 thumb 9 fair 1");
        // 10 times 81 by 90 times 125 more
        CHECK.part("thumbs(0)", x.thumbs(0, false), x.thumbs(0, true), 9, 134);
        CHECK.part("thumbs(1)", x.thumbs(1, false), x.thumbs(1, true), 0, 1);
        LongerHalf y = Check.told(Texts.LEAST + won("a b left", 12) + ";cheats a 99 thumb 9 fair 1;cheats b 50 thumb 1 fair 9");
        CHECK.part("thumbs(0) of twelve", y.thumbs(0, false), y.thumbs(0, true),
                99L * 282429536481L, 99L * 282429536481L + 1);
        CHECK.part("thumbs(1) of twelve", y.thumbs(1, false), y.thumbs(1, true), 282429536481L, 282429536482L);
        CHECK.due("trouble()", y.trouble(), 0);
    }

    private static void wrongInputs() {
        LongerHalf none = new LongerHalf();
        CHECK.refused(none, "hand(0)", none.hand(0, false), 1);
        CHECK.refused(none, "side()", none.side(false), 1);
        CHECK.refused(none, "known()", none.known(), 1);
        CHECK.refused(none, "hens(0)", none.hens(0), 1);
        CHECK.refused(none, "thumbs(0)", none.thumbs(0, false), 1);
        LongerHalf x = Check.told(Texts.FULL);
        CHECK.refused(x, "hand(4)", x.hand(4, false), 1);
        CHECK.refused(x, "hand(-1)", x.hand(-1, false), 1);
        CHECK.refused(x, "hens(0)", x.hens(0), 2);
        CHECK.refused(x, "hens(-5)", x.hens(-5), 2);
        CHECK.refused(x, "hens(1000001)", x.hens(1000001), 2);
        CHECK.refused(x, "thumbs(4)", x.thumbs(4, false), 1);
        CHECK.refused(x, "thumbs(-1)", x.thumbs(-1, false), 1);
        CHECK.refused(x, "thumbs(0)", x.thumbs(0, false), 6);
    }
}
