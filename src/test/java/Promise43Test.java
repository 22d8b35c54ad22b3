import java.util.NoSuchElementException;

/** Promise 43: led. */
public final class Promise43Test {
    private static final int THROWS = -9;
    private static final Cases C = new Cases(Promise43Test.class);

    public static void main(String[] args) throws ReflectiveOperationException {
        C.run();
    }

    private static int led(LongerHalf x, int i) {
        try {
            return x.led(i);
        } catch (NoSuchElementException e) {
            return THROWS;
        }
    }

    /** The bones that are there, by numbers, and none beside them. */
    private static void leads(LongerHalf x, int... due) {
        for (int i = 0; i < due.length; i++) {
            C.due("led(" + i + ")", led(x, i), due[i]);
        }
        for (int i : new int[] {-1, due.length, due.length + 1, Integer.MIN_VALUE, Integer.MAX_VALUE}) {
            C.due("led(" + i + ")", led(x, i), THROWS);
        }
    }

    /** Five bones of which each breaks. */
    private static LongerHalf five() {
        StringBuilder text = new StringBuilder(Texts.BRITTLE);
        for (int i = 0; i < 5; i++) {
            text.append(';').append(Texts.hen("h" + (char) ('a' + i), "1,9", "9,9"));
        }
        return Check.told(text + ";" + Texts.PAIR);
    }

    static void withoutAKitchen() {
        leads(new LongerHalf());
    }

    static void oneAndFiveBones() {
        leads(Check.told(Texts.LEAST), 0);
        leads(five(), 0, 1, 2, 3, 4);
    }

    static void thoseThatAreGoneAreLeftOut() {
        LongerHalf x = five();
        x.pull(0, 0, 1, 1, 1, 2);
        leads(x, 1, 2, 3, 4);
        x.pull(4, 0, 1, 1, 1, 2);
        leads(x, 1, 2, 3);
        x.pull(2, 0, 1, 1, 1, 2);
        leads(x, 1, 3);
        x.undo();
        leads(x, 1, 2, 3);
    }

    static void allAreGone() {
        LongerHalf x = five();
        for (int b = 0; b < 5; b++) {
            x.pull(b, 0, 1, 1, 1, 2);
        }
        leads(x);
    }

    static void boiledAndBentOnesAreNotGone() {
        LongerHalf x = five();
        x.boil(0);
        x.pull(0, 0, 1, 1, 1, 2);
        leads(x, 0, 1, 2, 3, 4);
    }

    static void itLeavesTroubleAlone() {
        LongerHalf x = five();
        x.dry(0);
        led(x, 9);
        C.due("trouble()", x.trouble(), 2);
        led(x, 0);
        C.due("trouble()", x.trouble(), 2);
    }
}
