/** Promise 26: side. */
public final class Promise26Test {
    private static final Cases C = new Cases(Promise26Test.class);

    public static void main(String[] args) throws ReflectiveOperationException {
        C.run();
    }

    private static void side(int left, int right, long up, long low) {
        LongerHalf x = Check.told(Texts.LEAST + Texts.more("won a b left", 0, left) + Texts.more("won a b right", 0, right));
        C.part("side() of " + left + " and " + right, x.side(false), x.side(true), up, low);
        C.due("trouble()", x.trouble(), 0);
    }

    static void noKitchen() {
        C.needsKitchen("side(true)", (x, v) -> x.side(true));
        C.needsKitchen("side(false)", (x, v) -> x.side(false));
    }

    static void ofNoHalves() {
        side(0, 0, 1, 1);
    }

    static void leftAlone() {
        side(1, 0, 1, 2);
        side(12, 0, 1, 4096);
    }

    static void rightAlone() {
        side(0, 1, 1, 1);
        side(0, 12, 1, 1);
    }

    static void both() {
        side(1, 11, 4095, 4096);
        side(11, 1, 13, 4096);
        side(6, 6, 1255, 2048);
        side(2, 1, 1, 2);
    }

    /** Whoever won: it is the winner's SIDE. */
    static void ofAllPeopleTogether() {
        LongerHalf x = Check.told(Texts.people(3) + ";won a b left;won b a left;won c a left;won b c right");
        C.part("side()", x.side(false), x.side(true), 5, 16);
    }
}
