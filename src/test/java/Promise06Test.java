/** Promise 6: bone. */
public final class Promise06Test {
    private static final Cases C = new Cases(Promise06Test.class);

    public static void main(String[] args) throws ReflectiveOperationException {
        C.run();
    }

    static void whichBone() {
        C.edges(Texts.FULL, 1, "bone()", 0, 2, (x, v) -> x.bone(v, 0));
        C.edges(Texts.LEAST, 1, "bone() of one", 0, 0, (x, v) -> x.bone(v, 4));
        String five = Texts.LEAST + Texts.more("bone # hen dry 1 left 1,1 right 1,1", 10, 4);
        C.edges(five, 1, "bone() of five", 0, 4, (x, v) -> x.bone(v, 3));
    }

    static void what() {
        C.edges(Texts.FULL, 1, "bone() what", 0, 4, (x, v) -> x.bone(2, v));
    }

    static void theKindIsThatOfNow() {
        LongerHalf x = Check.told(Texts.FULL);
        C.due("hen", x.bone(0, 0), 0);
        C.due("goose", x.bone(1, 0), 1);
        C.due("boiled", x.bone(2, 0), 2);
        x.boil(0);
        x.boil(1);
        C.due("a boiled hen's", x.bone(0, 0), 2);
        C.due("a boiled goose's", x.bone(1, 0), 2);
        x.undo();
        C.due("a goose's again", x.bone(1, 0), 1);
    }

    static void leastAndMostDays() {
        String text = Texts.of(Texts.RULES, "bone h hen dry 0 left 1,1 right 1,1", "bone i hen dry 24 left 1,1 right 1,1",
                "bone j hen dry 23 left 1,1 right 1,1", Texts.A, Texts.B);
        LongerHalf x = Check.told(text);
        C.due("0", x.bone(0, 1), 0);
        C.due("24", x.bone(1, 1), 24);
        x.dry(1);
        C.due("one more", x.bone(0, 1), 1);
        C.due("24 at most", x.bone(1, 1), 24);
        C.due("24", x.bone(2, 1), 24);
    }

    static void leastAndMostPlaces() {
        LongerHalf x = Check.told(Texts.brittle("1,1", "1,1,1,1,1,1"));
        C.due("left", x.bone(0, 2), 2);
        C.due("right", x.bone(0, 3), 6);
        LongerHalf y = Check.told(Texts.brittle("1,1,1,1,1,1", "1,1"));
        C.due("left", y.bone(0, 2), 6);
        C.due("right", y.bone(0, 3), 2);
    }

    static void goneOrNot() {
        LongerHalf x = Check.told(Texts.FULL);
        C.due("not gone", x.bone(0, 4), 0);
        x.pull(0, 0, 2, 1, 3, 2);
        C.due("gone", x.bone(0, 4), 1);
        C.due("another is not", x.bone(2, 4), 0);
        C.due("its days are told", x.bone(0, 1), 10);
        x.undo();
        C.due("not gone", x.bone(0, 4), 0);
    }
}
