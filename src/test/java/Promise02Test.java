/** Promise 2: feed, and that THE TAPE has 1,000 bytes. */
public final class Promise02Test {
    private static final int BLANKS = 0x20202020;
    private static final Cases C = new Cases(Promise02Test.class);

    public static void main(String[] args) throws ReflectiveOperationException {
        C.run();
    }

    private static LongerHalf fedBlanks(int times) {
        LongerHalf x = new LongerHalf();
        for (int i = 0; i < times; i++) {
            x.feed(BLANKS, BLANKS, BLANKS, BLANKS, BLANKS);
        }
        return x;
    }

    static void itAnswersHowManyBytesThereAre() {
        LongerHalf x = new LongerHalf();
        for (int i = 1; i <= 50; i++) {
            C.due("feed() " + i, x.feed(0, -1, BLANKS, Integer.MIN_VALUE, Integer.MAX_VALUE), 20 * i);
            C.due("size(13)", x.size(13), 20 * i);
        }
    }

    static void upToThousandBytesCome() {
        LongerHalf x = fedBlanks(49);
        C.due("size(13)", x.size(13), 980);
        C.due("feed() from 980 on", x.feed(1, 2, 3, 4, 5), 1000);
    }

    static void beyondThousandNoneComes() {
        LongerHalf x = fedBlanks(50);
        for (int i = 0; i < 3; i++) {
            C.due("feed() from 1,000 on", x.feed(1, 2, 3, 4, 5), -1);
            C.due("size(13)", x.size(13), 1000);
        }
        // had one come, or had it come in place of others, there would be a byte that begins no TOKEN
        C.due("kitchen(1000)", x.kitchen(1000), -1);
        C.due("fault()", x.fault(), 1);
        C.due("where() is the end", x.where(), 1000);
    }

    static void noNumberIsToldOfIt() {
        LongerHalf x = fedBlanks(50);
        x.kitchen(1001);
        C.due("feed()", x.feed(1, 2, 3, 4, 5), -1);
        C.due("trouble() is that of kitchen()", x.trouble(), 2);
        x.kitchen(0);
        C.due("feed()", x.feed(1, 2, 3, 4, 5), 20);
        C.due("trouble() is that of kitchen()", x.trouble(), 4);
        C.due("where() too", x.where(), 0);
    }

    /** ABCD EFGH IJKL MNOP QRST, each in turn the first byte that begins no TOKEN. */
    static void theHighestByteOfEachNumberComesFirst() {
        for (int place = 0; place < 20; place++) {
            int[] five = {BLANKS, BLANKS, BLANKS, BLANKS, BLANKS};
            for (int i = place; i < 20; i++) {
                int shift = 24 - 8 * (i % 4);
                five[i / 4] = five[i / 4] & ~(255 << shift) | ('A' + i) << shift;
            }
            LongerHalf x = new LongerHalf();
            x.feed(five[0], five[1], five[2], five[3], five[4]);
            x.kitchen(20);
            C.due("where() of byte " + place, x.where(), place);
        }
    }

    static void theyComeBehindTheTape() {
        LongerHalf x = fedBlanks(1);
        x.feed(BLANKS, BLANKS, BLANKS, BLANKS, BLANKS + 1);
        x.kitchen(40);
        C.due("where() of the last byte", x.where(), 39);
    }

    static void behindKitchenTheTapeIsEmptyAgain() {
        LongerHalf x = fedBlanks(50);
        x.kitchen(7);
        C.due("feed()", x.feed(BLANKS, BLANKS, BLANKS, BLANKS, BLANKS), 20);
    }
}
