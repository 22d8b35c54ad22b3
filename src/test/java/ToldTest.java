/** Promises 6 to 8: bone, thick, person. */
public final class ToldTest {
    private static final Check CHECK = new Check("ToldTest");

    public static void main(String[] args) {
        bones();
        thicknesses();
        people();
        CHECK.end();
    }

    private static void row(String call, int[] got, int... want) {
        for (int i = 0; i < want.length; i++) {
            CHECK.due(call + " " + i, got[i], want[i]);
        }
    }

    private static int[] bone(LongerHalf x, int b) {
        return new int[] {x.bone(b, 0), x.bone(b, 1), x.bone(b, 2), x.bone(b, 3), x.bone(b, 4)};
    }

    private static void bones() {
        LongerHalf x = Check.told(Texts.FULL);
        row("bone 0", bone(x, 0), 0, 10, 2, 3, 0);
        row("bone 1", bone(x, 1), 1, 24, 2, 2, 0);
        row("bone 2", bone(x, 2), 2, 9, 2, 2, 0);
        x.boil(1);
        x.dry(3);
        x.pull(0, 0, 2, 1, 3, 2);
        x.dry(2);
        row("bone 0 gone", bone(x, 0), 0, 13, 2, 3, 1);
        row("bone 1 boiled", bone(x, 1), 2, 24, 2, 2, 0);
        row("bone 2 dried", bone(x, 2), 2, 14, 2, 2, 0);
        CHECK.due("trouble()", x.trouble(), 0);
        CHECK.refused(x, "bone(3, 0)", x.bone(3, 0), 1);
        CHECK.refused(x, "bone(-1, 0)", x.bone(-1, 0), 1);
        CHECK.refused(x, "bone(0, 5)", x.bone(0, 5), 1);
        CHECK.refused(x, "bone(0, -1)", x.bone(0, -1), 1);
    }

    private static void thicknesses() {
        LongerHalf x = Check.told(Texts.FULL);
        row("left", new int[] {x.thick(0, 0, 0), x.thick(0, 0, 1)}, 2, 3);
        row("right", new int[] {x.thick(0, 1, 0), x.thick(0, 1, 1), x.thick(0, 1, 2)}, 3, 1, 2);
        CHECK.due("trouble()", x.trouble(), 0);
        CHECK.refused(x, "thick(0, 0, 2)", x.thick(0, 0, 2), 1);
        CHECK.refused(x, "thick(0, 1, 3)", x.thick(0, 1, 3), 1);
        CHECK.refused(x, "thick(0, 0, -1)", x.thick(0, 0, -1), 1);
        CHECK.refused(x, "thick(0, 2, 0)", x.thick(0, 2, 0), 1);
        CHECK.refused(x, "thick(0, -1, 0)", x.thick(0, -1, 0), 1);
        CHECK.refused(x, "thick(3, 0, 0)", x.thick(3, 0, 0), 1);
    }

    private static int[] person(LongerHalf x, int p) {
        int[] row = new int[7];
        for (int what = 0; what < 7; what++) {
            row[what] = x.person(p, what);
        }
        return row;
    }

    private static void people() {
        LongerHalf x = Check.told(Texts.FULL);
        row("person 0", person(x, 0), 0, 10, 2, 5, 6, 5, 0);
        row("person 1", person(x, 1), 1, 20, 3, 9, 3, 1, 0);
        row("person 2", person(x, 2), 2, 5, 1, 7, 2, 0, 0);
        row("person 3", person(x, 3), 3, 10, 6, 1, 1, 0, 0);
        x.pull(0, 0, 2, 1, 3, 2);
        row("person 0 has won", person(x, 0), 0, 10, 2, 5, 6, 5, 1);
        CHECK.due("trouble()", x.trouble(), 0);
        CHECK.refused(x, "person(4, 0)", x.person(4, 0), 1);
        CHECK.refused(x, "person(-1, 0)", x.person(-1, 0), 1);
        CHECK.refused(x, "person(0, 7)", x.person(0, 7), 1);
        CHECK.refused(x, "person(0, -1)", x.person(0, -1), 1);
    }
}
