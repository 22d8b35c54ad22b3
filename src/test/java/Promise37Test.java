/** Promise 37: boil, by BOIL of terms III. */
public final class Promise37Test {
    private static final Cases C = new Cases(Promise37Test.class);

    public static void main(String[] args) throws ReflectiveOperationException {
        C.run();
    }

    static void whichBone() {
        String five = Texts.LEAST + Texts.more("bone # hen dry 1 left 1,1 right 1,1", 10, 4);
        C.edges(five, 1, "boil() of five", 0, 4, (x, v) -> x.boil(v));
        C.edges(Texts.LEAST, 1, "boil() of one", 0, 0, (x, v) -> x.boil(v));
    }

    static void noSuchBoneAheadOfBoiledOrGone() {
        LongerHalf x = Check.told(Texts.FULL);
        C.refuses(x, 1, "boil(3)", () -> x.boil(3));
        C.refuses(x, 5, "boil(2)", () -> x.boil(2));
    }

    static void boiledAlready() {
        LongerHalf x = Check.told(Texts.FULL);
        C.refuses(x, 5, "told so", () -> x.boil(2));
        C.due("boil(0)", x.boil(0), true);
        C.refuses(x, 5, "again", () -> x.boil(0));
        x.undo();
        C.due("boil(0) behind undo()", x.boil(0), true);
    }

    static void gone() {
        LongerHalf x = Check.told(Texts.FULL);
        x.pull(0, 0, 2, 1, 3, 2);
        C.refuses(x, 5, "gone", () -> x.boil(0));
        x.undo();
        C.due("boil(0) behind undo()", x.boil(0), true);
    }

    static void aGooses() {
        LongerHalf x = Check.told(Texts.FULL);
        C.due("boil(1)", x.boil(1), true);
        C.due("bone(1, 0)", x.bone(1, 0), 2);
        C.refuses(x, 5, "again", () -> x.boil(1));
    }

    static void itIsAnAct() {
        LongerHalf x = Check.told(Texts.FULL);
        x.seed(5);
        x.boil(0);
        C.due("size(11)", x.size(11), 1);
        C.due("size(10)", x.size(10), 5);
        C.due("its days stay", x.bone(0, 1), 10);
        C.due("others stay", x.bone(1, 0), 1);
    }
}
