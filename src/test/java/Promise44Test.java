/** Promise 44: size. */
public final class Promise44Test {
    private static final Cases C = new Cases(Promise44Test.class);

    public static void main(String[] args) throws ReflectiveOperationException {
        C.run();
    }

    private static void sizes(LongerHalf x, int... due) {
        for (int what = 0; what < due.length; what++) {
            C.due("size(" + what + ")", x.size(what), due[what]);
        }
    }

    static void noneForOthers() {
        for (LongerHalf x : new LongerHalf[] {new LongerHalf(), Check.told(Texts.FULL)}) {
            for (int what : new int[] {-1, 14, 15, Integer.MIN_VALUE, Integer.MAX_VALUE}) {
                C.due("size(" + what + ")", x.size(what), -1);
            }
        }
    }

    static void zeroForWhatThereIsnt() {
        sizes(new LongerHalf(), 0, 0, 0, 0, 0, 0, 0, 0, 0, 0, 0, 0, 0, 0);
        LongerHalf x = new LongerHalf();
        Check.tell(x, Texts.FULL + ";");
        sizes(x, 0, 0, 0, 0, 0, 0, 0, 0, 0, 0, 0, 0, 0, 0);
    }

    static void theLeastKitchen() {
        sizes(Check.told(Texts.LEAST.replace(Texts.RULES, Texts.rules(0, 25, 0, 0, 0))),
                0, 25, 0, 0, 0, 1, 2, 0, 0, 0, 0, 0, 0, 0);
    }

    /** As many LINES of all sorts as there is room for, by as few bytes as that takes. */
    static void theGreatestKitchen() {
        String text = Texts.rules(9, 60, 99, 99, 99) + Texts.more("bone # hen dry 1left 1,1right 1,1", 10, 5)
                + Texts.more("person # cook force 1hold 1wish 1", 0, 6) + Texts.more("for a # 1", 1, 5)
                + Texts.more("for # a 1", 1, 5) + Texts.more("won a b left", 0, 12) + Texts.more("piece left 1", 0, 4);
        LongerHalf x = Check.told(text);
        sizes(x, 9, 60, 99, 99, 99, 5, 6, 10, 12, 4, 0, 0, 0, 0);
    }

    static void seedActsMarksAndTape() {
        LongerHalf x = Check.told(Texts.LEAST);
        x.seed(65536);
        for (int i = 0; i < 17; i++) {
            x.dry(1);
            x.mark();
        }
        for (int i = 0; i < 51; i++) {
            x.feed(0, 0, 0, 0, 0);
        }
        sizes(x, 2, 30, 5, 2, 0, 1, 2, 0, 0, 0, 65536, 16, 3, 1000);
    }

    /** It is asked, not refused: TROUBLE stays that of another call. */
    static void itLeavesTroubleAlone() {
        LongerHalf x = Check.told(Texts.LEAST);
        x.dry(0);
        x.size(14);
        C.due("trouble()", x.trouble(), 2);
        x.size(0);
        C.due("trouble()", x.trouble(), 2);
    }
}
