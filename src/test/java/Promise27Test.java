/** Promise 27: known, by KNOWN of terms III. */
public final class Promise27Test {
    private static final Cases C = new Cases(Promise27Test.class);

    public static void main(String[] args) throws ReflectiveOperationException {
        C.run();
    }

    private static int known(int won, int lost) {
        return Check.told(Texts.LEAST + Texts.more("won a b left", 0, won) + Texts.more("won b a left", 0, lost)).known();
    }

    static void noKitchen() {
        C.needsKitchen("known()", (x, v) -> x.known());
    }

    static void nobodyWithoutPulls() {
        C.due("known()", known(0, 0), 0);
    }

    /** One in 16 is more likely than one in twenty, one in 32 less. */
    static void noMoreLikelyThanOneInTwentyAllWon() {
        C.due("four of four", known(4, 0), 0);
        C.due("five of five", known(5, 0), 1);
        C.due("twelve of twelve", known(12, 0), 1);
    }

    /** 8 of 128, 9 of 256; 56 of 1,024, 67 of 2,048; 299 of 4,096, 79 of 4,096. */
    static void noMoreLikelyThanOneInTwentySomeLost() {
        C.due("six of seven", known(6, 1), 0);
        C.due("seven of eight", known(7, 1), 1);
        C.due("eight of ten", known(8, 2), 0);
        C.due("nine of eleven", known(9, 2), 1);
        C.due("nine of twelve", known(9, 3), 0);
        C.due("ten of twelve", known(10, 2), 1);
    }

    static void theFirstAndTheLastAsBits() {
        String text = Texts.people(6);
        C.due("the first", Check.told(text + Texts.more("won a f left", 0, 5)).known(), 1);
        C.due("the last", Check.told(text + Texts.more("won f a left", 0, 5)).known(), 32);
        C.due("both", Check.told(text + Texts.more("won f b left", 0, 5) + Texts.more("won a b left", 0, 5)).known(), 33);
    }

    static void whoLosesIsNotKnown() {
        C.due("the second", known(0, 5), 2);
        C.due("who lost all", known(12, 0) & 2, 0);
    }
}
