import java.util.NoSuchElementException;

/** Promise 5: where. */
public final class Promise05Test {
    private static final Cases C = new Cases(Promise05Test.class);
    private static final String L = Texts.LEAST;

    public static void main(String[] args) throws ReflectiveOperationException {
        C.run();
    }

    private static LongerHalf faulty() {
        LongerHalf x = Check.told(L);
        Check.tell(x, "kitchen !");
        return x;
    }

    static void noneOfANewObject() {
        C.due("where()", new LongerHalf().where(), -1);
    }

    static void noneOfASoundText() {
        C.due("where()", Check.told(L).where(), -1);
    }

    static void theLeastPlace() {
        C.faulty(1, "^!");
        C.faulty(6, "^bone");
    }

    static void theGreatestPlaces() {
        C.faulty(1, " ".repeat(999) + "^!");
        C.faulty(1, " ".repeat(1000) + "^");
        C.faulty(6, Texts.RULES + " ".repeat(1000 - Texts.RULES.length()) + "^");
    }

    static void noneIfRefusedBy2() {
        LongerHalf x = faulty();
        C.due("where()", x.where(), 8);
        x.kitchen(1);
        C.due("where() behind kitchen(1)", x.where(), -1);
        C.due("fault() stays", x.fault(), 1);
    }

    static void noneBehindACallThatWasntRefused() {
        LongerHalf x = faulty();
        x.known();
        C.due("where() behind known()", x.where(), -1);
        LongerHalf y = faulty();
        Check.tell(y, L);
        C.due("where() behind a sound text", y.where(), -1);
    }

    static void noneBehindACallRefusedByAnotherNumber() {
        LongerHalf x = faulty();
        x.undo();
        C.due("where() behind undo()", x.where(), -1);
        LongerHalf y = faulty();
        y.bone(9, 9);
        C.due("where() behind bone()", y.where(), -1);
    }

    /** feed, fault, where, led, size and trouble are not refused by a number. */
    static void itStaysBehindCallsThatMayNotBeRefused() {
        LongerHalf x = faulty();
        x.feed(0, 0, 0, 0, 0);
        x.fault();
        x.where();
        x.size(99);
        x.trouble();
        try {
            x.led(99);
        } catch (NoSuchElementException e) {
            C.due("where()", x.where(), 8);
        }
    }
}
