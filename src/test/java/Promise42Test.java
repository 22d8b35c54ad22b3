/** Promise 42: back. */
public final class Promise42Test {
    private static final Cases C = new Cases(Promise42Test.class);

    public static void main(String[] args) throws ReflectiveOperationException {
        C.run();
    }

    private static LongerHalf marked(int marks) {
        LongerHalf x = Check.told(Texts.FULL);
        for (int i = 0; i < marks; i++) {
            x.seed(i);
            x.mark();
            x.dry(1);
        }
        return x;
    }

    static void noSuchMark() {
        for (int marks = 0; marks <= 3; marks++) {
            LongerHalf x = marked(marks);
            int one = marks;
            C.refuses(x, 1, "back(" + one + ")", () -> x.back(one));
            C.refuses(x, 1, "back(-1)", () -> x.back(-1));
            C.refuses(x, 1, "back() of the least int", () -> x.back(Integer.MIN_VALUE));
            C.refuses(x, 1, "back() of the greatest int", () -> x.back(Integer.MAX_VALUE));
        }
    }

    static void theFirstAndTheLast() {
        LongerHalf x = marked(3);
        C.due("back(0)", x.back(0), true);
        C.due("days", x.bone(0, 1), 10);
        C.due("SEED", x.size(10), 0);
        C.due("back(2)", x.back(2), true);
        C.due("days", x.bone(0, 1), 12);
        C.due("SEED", x.size(10), 2);
        C.due("trouble()", x.trouble(), 0);
    }

    static void allMarksStay() {
        LongerHalf x = marked(3);
        x.back(0);
        C.due("size(12)", x.size(12), 3);
        C.due("back(1)", x.back(1), true);
        C.due("days", x.bone(0, 1), 11);
        C.due("size(12)", x.size(12), 3);
    }

    static void nothingCanBeUndone() {
        LongerHalf x = marked(1);
        x.boil(0);
        C.due("size(11)", x.size(11), 2);
        x.back(0);
        C.due("size(11)", x.size(11), 0);
        C.refuses(x, 6, "undo()", () -> x.undo());
        x.dry(1);
        C.due("size(11)", x.size(11), 1);
        C.due("undo() of what came behind", x.undo(), true);
        C.due("days", x.bone(0, 1), 10);
        C.refuses(x, 6, "undo()", () -> x.undo());
    }

    static void refusedItLeavesWhatCanBeUndone() {
        LongerHalf x = marked(2);
        x.back(2);
        C.due("size(11)", x.size(11), 2);
        C.due("undo()", x.undo(), true);
    }

    static void allIsAsByTheMark() {
        LongerHalf x = Check.told(Texts.FULL);
        x.seed(4);
        x.mark();
        String before = Cases.shown(x);
        x.pull(0, 0, 2, 1, 3, 2);
        x.boil(1);
        x.dry(9);
        C.due("back(0)", x.back(0), true);
        C.due("shown", Cases.shown(x).equals(before), true);
    }

    /** What comes behind a MARK leaves it as it is, also behind going back to it. */
    static void aMarkServesOften() {
        LongerHalf x = marked(1);
        for (int i = 0; i < 3; i++) {
            C.due("back(0)", x.back(0), true);
            C.due("days", x.bone(0, 1), 10);
            x.dry(5);
            x.pull(0, 0, 2, 1, 3, 2);
            C.due("gone", x.bone(0, 4), 1);
        }
    }
}
