/** Promise 41: mark, by MARKS of terms III. */
public final class Promise41Test {
    private static final Cases C = new Cases(Promise41Test.class);

    public static void main(String[] args) throws ReflectiveOperationException {
        C.run();
    }

    static void noKitchen() {
        C.needsKitchen("mark()", (x, v) -> x.mark());
    }

    static void upToThree() {
        LongerHalf x = Check.told(Texts.FULL);
        C.due("size(12)", x.size(12), 0);
        for (int i = 0; i < 3; i++) {
            C.due("mark()", x.mark(), i);
            C.due("trouble()", x.trouble(), 0);
            C.due("size(12)", x.size(12), i + 1);
        }
    }

    static void aFourthHasNoRoom() {
        LongerHalf x = Check.told(Texts.FULL);
        x.mark();
        x.mark();
        x.dry(1);
        x.mark();
        x.dry(1);
        C.refuses(x, 3, "mark()", () -> x.mark());
        C.refuses(x, 3, "mark() again", () -> x.mark());
        x.back(2);
        C.due("the third stays", x.bone(0, 1), 11);
        C.refuses(x, 3, "mark() behind back()", () -> x.mark());
    }

    static void itIsNoAct() {
        LongerHalf x = Check.told(Texts.FULL);
        x.dry(1);
        x.mark();
        C.due("size(11)", x.size(11), 1);
        C.due("undo()", x.undo(), true);
        C.due("bone(0, 1)", x.bone(0, 1), 10);
    }

    static void aNewKitchenHasNone() {
        LongerHalf x = Check.told(Texts.FULL);
        x.mark();
        Check.tell(x, Texts.LEAST);
        C.due("size(12)", x.size(12), 0);
        C.due("mark()", x.mark(), 0);
    }
}
