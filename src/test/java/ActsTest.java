/** Promises 36 to 42: dry, boil, pull, seed, undo, mark, back. */
public final class ActsTest {
    private static final Check CHECK = new Check("ActsTest");

    public static void main(String[] args) {
        drying();
        boiling();
        pulling();
        flawsDrawn();
        seeds();
        undoing();
        sixteen();
        marking();
        withoutKitchen();
        CHECK.end();
    }

    private static void drying() {
        LongerHalf x = Check.told(Texts.FULL);
        x.pull(0, 0, 2, 1, 3, 2);
        CHECK.due("dry(24)", x.dry(24), true);
        CHECK.due("a gone one stays", x.bone(0, 1), 10);
        CHECK.due("24 at most", x.bone(1, 1), 24);
        CHECK.due("a boiled one too", x.bone(2, 1), 24);
        CHECK.due("size(11)", x.size(11), 2);
        CHECK.refused(x, "dry(0)", x.dry(0), 2);
        CHECK.refused(x, "dry(25)", x.dry(25), 2);
        CHECK.refused(x, "dry(-1)", x.dry(-1), 2);
        CHECK.due("size(11)", x.size(11), 2);
        CHECK.due("dry(1) that changes nothing", x.dry(1), true);
        CHECK.due("is an act", x.size(11), 3);
        CHECK.due("trouble()", x.trouble(), 0);
    }

    private static void boiling() {
        LongerHalf x = Check.told(Texts.FULL);
        CHECK.due("boil(1)", x.boil(1), true);
        CHECK.due("bone(1, 0)", x.bone(1, 0), 2);
        CHECK.due("size(11)", x.size(11), 1);
        CHECK.refused(x, "boil(1) again", x.boil(1), 5);
        CHECK.refused(x, "boil(2) told so", x.boil(2), 5);
        CHECK.refused(x, "boil(3)", x.boil(3), 1);
        CHECK.refused(x, "boil(-1)", x.boil(-1), 1);
        x.pull(0, 0, 2, 1, 3, 2);
        CHECK.refused(x, "boil(0) that is gone", x.boil(0), 5);
        CHECK.due("size(11)", x.size(11), 2);
    }

    private static void pulling() {
        LongerHalf x = Check.told(Texts.FULL);
        CHECK.refused(x, "pull() of no bone", x.pull(3, 0, 1, 1, 1, 2), 1);
        CHECK.refused(x, "pull() of like people", x.pull(0, 1, 1, 1, 1, 2), 1);
        CHECK.refused(x, "pull() hold", x.pull(0, 0, 3, 1, 1, 2), 2);
        CHECK.refused(x, "pull() hold", x.pull(0, 0, 1, 1, 0, 2), 2);
        CHECK.refused(x, "pull() who moves", x.pull(1, 0, 1, 1, 1, 4), 2);
        CHECK.refused(x, "pull() of a goose's", x.pull(1, 0, 1, 1, 1, 2), 5);
        CHECK.due("size(10): no draw", x.size(10), 0);
        CHECK.due("size(11): no act", x.size(11), 0);
        CHECK.due("pull() of a boiled one", x.pull(2, 0, 2, 1, 2, 2), 3);
        CHECK.due("it is not gone", x.bone(2, 4), 0);
        CHECK.due("a draw", x.size(10), 74);
        CHECK.due("an act", x.size(11), 1);
        CHECK.due("pull()", x.pull(0, 1, 2, 0, 1, 2), 1);
        CHECK.due("the right one has won", x.person(0, 6), 1);
        CHECK.due("the left one has not", x.person(1, 6), 0);
        CHECK.due("it is gone", x.bone(0, 4), 1);
        CHECK.refused(x, "pull() of a gone one", x.pull(0, 0, 1, 1, 1, 2), 5);
        CHECK.refused(x, "2 ahead of 5", x.pull(0, 0, 9, 1, 1, 2), 2);
        x.boil(1);
        CHECK.refused(x, "pull() of a boiled goose's", x.pull(1, 0, 1, 1, 1, 2), 5);
        // three is broken, and nobody has won
        LongerHalf y = Check.told("kitchen bends 2 tough 25 jerk 0 thumb 0 flaw 0;bone h hen dry 24 left 1,1 right 1,1;"
                + Texts.A + ";" + Texts.B);
        CHECK.due("pull() in three", y.pull(0, 0, 1, 1, 1, 2), 2);
        CHECK.due("is gone", y.bone(0, 4), 1);
        CHECK.due("nobody won", y.person(0, 6) + y.person(1, 6), 0);
    }

    private static void flawsDrawn() {
        String text = "kitchen bends 0 tough 25 jerk 0 thumb 0 flaw 75;bone h hen dry 24 left 3,9 right 3,9;"
                + Texts.A + ";" + Texts.B;
        // 74 of a hundred is below 75; 5,624 mod 4 is 0: the left arm's place 0
        LongerHalf x = Check.told(text);
        CHECK.due("a flaw in left 0", x.pull(0, 0, 1, 1, 1, 2), 1);
        CHECK.due("two draws", x.size(10), 5624);
        LongerHalf y = Check.told(text.replace("75", "74"));
        CHECK.due("no flaw", y.pull(0, 0, 1, 1, 1, 2), 3);
        CHECK.due("one draw", y.size(10), 74);
        // from 5,624 on: 28,652 mod 100 is 52, 51,790 mod 4 is 2: the right arm's place 0
        LongerHalf z = Check.told(text);
        z.seed(5624);
        CHECK.due("a flaw in right 0", z.pull(0, 0, 1, 1, 1, 2), 0);
        CHECK.due("two draws", z.size(10), 51790);
    }

    private static void seeds() {
        LongerHalf x = Check.told(Texts.FULL);
        CHECK.due("seed(65536)", x.seed(65536), true);
        CHECK.due("size(10)", x.size(10), 65536);
        CHECK.due("no act", x.size(11), 0);
        CHECK.refused(x, "seed(65537)", x.seed(65537), 2);
        CHECK.refused(x, "seed(-1)", x.seed(-1), 2);
        CHECK.due("size(10)", x.size(10), 65536);
        CHECK.due("seed(0)", x.seed(0), true);
        CHECK.due("size(10)", x.size(10), 0);
        x.seed(65536);
        x.pull(2, 0, 1, 1, 1, 2);
        // 75 times -1 and 74 is -1
        CHECK.due("a draw from 65,536", x.size(10), 65536);
    }

    private static void undoing() {
        LongerHalf x = Check.told(Texts.FULL);
        CHECK.refused(x, "undo() of nothing", x.undo(), 6);
        x.seed(5);
        x.dry(2);
        x.seed(9);
        x.boil(1);
        x.seed(0);
        x.pull(0, 0, 2, 1, 3, 2);
        CHECK.due("person(0, 6)", x.person(0, 6), 1);
        CHECK.due("undo() of pull", x.undo(), true);
        CHECK.due("not gone", x.bone(0, 4), 0);
        CHECK.due("not won", x.person(0, 6), 0);
        CHECK.due("seed", x.size(10), 0);
        CHECK.due("undo() of boil", x.undo(), true);
        CHECK.due("a goose's again", x.bone(1, 0), 1);
        CHECK.due("seed", x.size(10), 9);
        CHECK.due("undo() of dry", x.undo(), true);
        CHECK.due("days", x.bone(0, 1), 10);
        CHECK.due("seed ahead of dry", x.size(10), 5);
        CHECK.due("trouble()", x.trouble(), 0);
        CHECK.refused(x, "undo() of nothing more", x.undo(), 6);
    }

    private static void sixteen() {
        LongerHalf x = Check.told(Texts.LEAST);
        for (int i = 1; i <= 20; i++) {
            x.dry(1);
            CHECK.due("size(11)", x.size(11), Math.min(i, 16));
        }
        for (int i = 1; i <= 16; i++) {
            CHECK.due("undo() " + i, x.undo(), true);
            CHECK.due("bone(0, 1)", x.bone(0, 1), 21 - i);
        }
        CHECK.refused(x, "undo() of the seventeenth", x.undo(), 6);
        CHECK.due("bone(0, 1)", x.bone(0, 1), 5);
        x.dry(3);
        CHECK.due("undo() of one more", x.undo(), true);
        CHECK.due("bone(0, 1)", x.bone(0, 1), 5);
    }

    private static void marking() {
        LongerHalf x = Check.told(Texts.FULL);
        CHECK.refused(x, "back(0) without marks", x.back(0), 1);
        CHECK.due("mark()", x.mark(), 0);
        x.seed(7);
        x.dry(1);
        CHECK.due("mark()", x.mark(), 1);
        x.boil(0);
        x.seed(8);
        CHECK.due("mark()", x.mark(), 2);
        CHECK.refused(x, "mark() without room", x.mark(), 3);
        CHECK.due("size(12)", x.size(12), 3);
        CHECK.due("undo()", x.undo(), true);
        CHECK.due("marks stay", x.size(12), 3);
        CHECK.due("back(0)", x.back(0), true);
        CHECK.due("days", x.bone(0, 1), 10);
        CHECK.due("seed", x.size(10), 0);
        CHECK.due("nothing can be undone", x.size(11), 0);
        CHECK.refused(x, "undo()", x.undo(), 6);
        CHECK.due("all marks stay", x.size(12), 3);
        CHECK.due("back(2)", x.back(2), true);
        CHECK.due("boiled", x.bone(0, 0), 2);
        CHECK.due("seed", x.size(10), 8);
        CHECK.due("back(1)", x.back(1), true);
        CHECK.due("not boiled", x.bone(0, 0), 0);
        CHECK.due("days", x.bone(0, 1), 11);
        x.pull(0, 0, 2, 1, 3, 2);
        CHECK.due("back(1) again", x.back(1), true);
        CHECK.due("not gone", x.bone(0, 4), 0);
        CHECK.due("not won", x.person(0, 6), 0);
        CHECK.due("trouble()", x.trouble(), 0);
        CHECK.refused(x, "back(3)", x.back(3), 1);
        CHECK.refused(x, "back(-1)", x.back(-1), 1);
    }

    private static void withoutKitchen() {
        LongerHalf x = new LongerHalf();
        CHECK.refused(x, "dry(0)", x.dry(0), 1);
        CHECK.refused(x, "boil(0)", x.boil(0), 1);
        CHECK.refused(x, "pull()", x.pull(0, 0, 1, 1, 1, 9), 1);
        CHECK.refused(x, "seed(-1)", x.seed(-1), 1);
        CHECK.refused(x, "undo()", x.undo(), 6);
        CHECK.refused(x, "mark()", x.mark(), 1);
        CHECK.refused(x, "back(0)", x.back(0), 1);
    }
}
