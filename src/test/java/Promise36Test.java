/** Promise 36: dry, by DRY of terms III. */
public final class Promise36Test {
    private static final Cases C = new Cases(Promise36Test.class);

    public static void main(String[] args) throws ReflectiveOperationException {
        C.run();
    }

    private static LongerHalf days(int... days) {
        StringBuilder text = new StringBuilder(Texts.RULES);
        for (int i = 0; i < days.length; i++) {
            text.append(";bone h").append((char) ('a' + i)).append(" hen dry ").append(days[i]).append(" left 1,1 right 1,1");
        }
        return Check.told(text + ";" + Texts.PAIR);
    }

    static void howManyDays() {
        C.edges(Texts.FULL, 2, "dry()", 1, 24, (x, v) -> x.dry(v));
    }

    static void noKitchenAheadOfTheDays() {
        for (int days : new int[] {0, 1, 24, 25}) {
            LongerHalf x = new LongerHalf();
            C.refuses(x, 1, "dry(" + days + ")", () -> x.dry(days));
        }
    }

    static void oneDayMore() {
        LongerHalf x = days(0, 22, 23, 24);
        x.dry(1);
        int[] due = {1, 23, 24, 24};
        for (int b = 0; b < 4; b++) {
            C.due("bone(" + b + ", 1)", x.bone(b, 1), due[b]);
        }
    }

    static void allFiveBones() {
        LongerHalf x = days(0, 1, 2, 3, 4);
        C.due("dry(2)", x.dry(2), true);
        for (int b = 0; b < 5; b++) {
            C.due("bone(" + b + ", 1)", x.bone(b, 1), b + 2);
        }
    }

    static void twentyFourAtMost() {
        LongerHalf x = days(0, 1, 24);
        x.dry(24);
        for (int b = 0; b < 3; b++) {
            C.due("bone(" + b + ", 1)", x.bone(b, 1), 24);
        }
        LongerHalf y = days(0, 1);
        y.dry(23);
        C.due("23", y.bone(0, 1), 23);
        C.due("24", y.bone(1, 1), 24);
    }

    static void eachThatIsntGone() {
        LongerHalf x = Check.told(Texts.FULL);
        x.pull(0, 0, 2, 1, 3, 2);
        x.dry(3);
        C.due("a gone one", x.bone(0, 1), 10);
        C.due("a boiled one", x.bone(2, 1), 12);
    }

    static void itIsAnActThoughNothingDries() {
        LongerHalf x = days(24);
        C.due("dry(1)", x.dry(1), true);
        C.due("size(11)", x.size(11), 1);
        C.due("undo()", x.undo(), true);
    }

    static void ofAllGone() {
        LongerHalf x = Check.told(Texts.brittle("1,9", "9,9").replace("dry 24", "dry 23"));
        x.pull(0, 0, 2, 1, 2, 2);
        C.due("gone", x.bone(0, 4), 1);
        C.due("dry(1)", x.dry(1), true);
        C.due("its days stay", x.bone(0, 1), 23);
        C.due("size(11)", x.size(11), 2);
    }

    static void theSeedStays() {
        LongerHalf x = days(0);
        x.seed(9);
        x.dry(1);
        C.due("size(10)", x.size(10), 9);
    }
}
