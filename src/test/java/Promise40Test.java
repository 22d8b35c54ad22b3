/** Promise 40: undo, by UNDO of terms III. */
public final class Promise40Test {
    private static final Cases C = new Cases(Promise40Test.class);

    public static void main(String[] args) throws ReflectiveOperationException {
        C.run();
    }

    /** The least KITCHEN, dried so often by one day from day 1 on. */
    private static LongerHalf dried(int times) {
        LongerHalf x = Check.told(Texts.LEAST);
        for (int i = 0; i < times; i++) {
            x.dry(1);
        }
        return x;
    }

    static void nothingToUndo() {
        LongerHalf none = new LongerHalf();
        C.refuses(none, 6, "undo() without a KITCHEN", () -> none.undo());
        LongerHalf x = dried(0);
        C.refuses(x, 6, "undo()", () -> x.undo());
    }

    static void oneAct() {
        LongerHalf x = dried(1);
        C.due("size(11)", x.size(11), 1);
        C.due("undo()", x.undo(), true);
        C.due("bone(0, 1)", x.bone(0, 1), 1);
        C.due("size(11)", x.size(11), 0);
        C.refuses(x, 6, "undo()", () -> x.undo());
    }

    /** So many ACTS, of which so many can be undone. */
    private static void undone(int acts, int kept) {
        LongerHalf x = dried(acts);
        C.due("size(11) of " + acts, x.size(11), kept);
        for (int i = 1; i <= kept; i++) {
            C.due("undo() " + i + " of " + acts, x.undo(), true);
            C.due("bone(0, 1)", x.bone(0, 1), 1 + acts - i);
            C.due("size(11)", x.size(11), kept - i);
        }
        C.refuses(x, 6, "undo() of one more", () -> x.undo());
        C.due("bone(0, 1)", x.bone(0, 1), 1 + acts - kept);
    }

    static void sixteenAreKept() {
        undone(15, 15);
        undone(16, 16);
    }

    static void theSeventeenthIsNot() {
        undone(17, 16);
        undone(20, 16);
    }

    static void behindUndoingThereIsRoomAgain() {
        LongerHalf x = dried(16);
        x.undo();
        x.undo();
        x.dry(1);
        C.due("size(11)", x.size(11), 15);
        for (int i = 0; i < 15; i++) {
            C.due("undo()", x.undo(), true);
        }
        C.due("bone(0, 1)", x.bone(0, 1), 1);
        C.refuses(x, 6, "undo()", () -> x.undo());
    }

    /** SEED, too: as it was ahead of the latest ACT, whatever came behind that. */
    static void theSeedToo() {
        LongerHalf x = Check.told(Texts.FULL);
        x.seed(5);
        x.pull(0, 0, 2, 1, 3, 2);
        x.seed(65536);
        C.due("undo()", x.undo(), true);
        C.due("size(10)", x.size(10), 5);
        x.dry(1);
        x.seed(9);
        x.undo();
        C.due("size(10)", x.size(10), 5);
    }

    static void allIsAsAhead() {
        LongerHalf x = Check.told(Texts.FULL);
        String before = Cases.shown(x);
        x.pull(0, 0, 2, 1, 3, 2);
        x.undo();
        C.due("pull", Cases.shown(x).equals(before), true);
        x.boil(1);
        x.undo();
        C.due("boil", Cases.shown(x).equals(before), true);
        x.dry(24);
        x.undo();
        C.due("dry", Cases.shown(x).equals(before), true);
    }

    static void refusedActsAreNotUndone() {
        LongerHalf x = dried(1);
        x.dry(0);
        x.boil(9);
        x.pull(0, 0, 0, 0, 0, 0);
        C.due("undo()", x.undo(), true);
        C.due("bone(0, 1)", x.bone(0, 1), 1);
    }

    static void marksStay() {
        LongerHalf x = dried(1);
        x.mark();
        x.undo();
        C.due("size(12)", x.size(12), 1);
        C.due("back(0)", x.back(0), true);
        C.due("bone(0, 1)", x.bone(0, 1), 2);
    }
}
