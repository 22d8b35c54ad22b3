import java.util.NoSuchElementException;

/** Promises 43 to 45: led, size, trouble. */
public final class SizesTest {
    private static final Check CHECK = new Check("SizesTest");

    public static void main(String[] args) {
        ledBones();
        sizes();
        troubles();
        CHECK.end();
    }

    private static void led(LongerHalf x, int i, int want) {
        int got;
        try {
            got = x.led(i);
        } catch (NoSuchElementException e) {
            got = -9;
        }
        CHECK.due("led(" + i + ")", got, want);
    }

    private static void ledBones() {
        LongerHalf x = new LongerHalf();
        led(x, 0, -9);
        Check.tell(x, Texts.FULL);
        led(x, 0, 0);
        led(x, 1, 1);
        led(x, 2, 2);
        led(x, 3, -9);
        led(x, -1, -9);
        x.pull(0, 0, 2, 1, 3, 2);
        led(x, 0, 1);
        led(x, 1, 2);
        led(x, 2, -9);
        x.undo();
        led(x, 2, 2);
    }

    private static void sizes() {
        LongerHalf x = Check.told(Texts.FULL);
        x.seed(33);
        x.dry(1);
        x.dry(1);
        x.mark();
        x.feed(1, 2, 3, 4, 5);
        int[] want = {2, 30, 50, 20, 20, 3, 4, 3, 6, 2, 33, 2, 1, 20};
        for (int what = 0; what < want.length; what++) {
            CHECK.due("size(" + what + ")", x.size(what), want[what]);
        }
        CHECK.due("size(14)", x.size(14), -1);
        CHECK.due("size(-1)", x.size(-1), -1);
    }

    /** Calls of which no number is told leave TROUBLE as it is. */
    private static void troubles() {
        LongerHalf x = Check.told(Texts.FULL);
        x.dry(0);
        x.feed(1, 2, 3, 4, 5);
        x.fault();
        x.where();
        x.size(99);
        led(x, 99, -9);
        x.trouble();
        CHECK.due("trouble()", x.trouble(), 2);
        x.dry(1);
        CHECK.due("trouble() of what wasn't refused", x.trouble(), 0);
        x.worth(9);
        CHECK.due("trouble()", x.trouble(), 1);
    }
}
