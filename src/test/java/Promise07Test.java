/** Promise 7: thick. */
public final class Promise07Test {
    private static final Cases C = new Cases(Promise07Test.class);
    private static final String UNLIKE = Texts.brittle("1,9", "2,3,4,5,6,7");

    public static void main(String[] args) throws ReflectiveOperationException {
        C.run();
    }

    static void whichBone() {
        C.edges(Texts.FULL, 1, "thick()", 0, 2, (x, v) -> x.thick(v, 0, 0));
    }

    static void whichArm() {
        C.edges(Texts.FULL, 1, "thick() arm", 0, 1, (x, v) -> x.thick(0, v, 0));
    }

    /** Each arm has its own places. */
    static void whichPlace() {
        C.edges(UNLIKE, 1, "thick() left", 0, 1, (x, v) -> x.thick(0, 0, v));
        C.edges(UNLIKE, 1, "thick() right", 0, 5, (x, v) -> x.thick(0, 1, v));
    }

    static void fromTheKnobOn() {
        LongerHalf x = Check.told(UNLIKE);
        C.due("left 0", x.thick(0, 0, 0), 1);
        C.due("left 1", x.thick(0, 0, 1), 9);
        for (int place = 0; place < 6; place++) {
            C.due("right " + place, x.thick(0, 1, place), 2 + place);
        }
    }

    static void itIsAsToldOfWhatIsDriedBoiledOrGone() {
        LongerHalf x = Check.told(Texts.FULL);
        x.dry(5);
        x.boil(1);
        x.pull(0, 0, 2, 1, 3, 2);
        C.due("gone", x.thick(0, 1, 2), 2);
        C.due("boiled", x.thick(1, 0, 1), 1);
    }
}
