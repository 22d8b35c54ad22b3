/** Promise 17: rest. */
public final class Promise17Test {
    private static final Cases C = new Cases(Promise17Test.class);

    public static void main(String[] args) throws ReflectiveOperationException {
        C.run();
    }

    static void asAPairIsRefused() {
        C.edgesOfPair("rest()", LongerHalf::rest);
    }

    /** All pairs are RESTS where all bends: the first, by p's choice, then q's. */
    static void theFirst() {
        LongerHalf x = Check.told(Texts.FULL);
        C.due("two who may move or not", x.rest(2, 0, 1), 1010);
        C.due("p is a child", x.rest(2, 2, 1), 1110);
        C.due("q is a child", x.rest(2, 0, 2), 1011);
        LongerHalf y = Check.told(Texts.FULL.replace("cook", "child"));
        C.due("both are", y.rest(2, 1, 2), 1111);
    }

    /** A REST by one's least hold, not moving, is there always: nobody's arm bears more by holding further out. */
    static void thereIsOneInEveryGame() {
        String[][] arms = {{"1,1", "1,1"}, {"3,2,9", "3,9"}, {"2,9", "4,3,1"}, {"5,4,3,2", "6,4,2,2,1,1"}};
        for (String[] arm : arms) {
            LongerHalf x = Check.told(Texts.of(Texts.rules(0, 25, 2, 0, 37), Texts.hen("h", arm[0], arm[1]), Texts.PAIR));
            C.due("rest() of " + arm[0] + " and " + arm[1], x.rest(0, 0, 1), 1010);
            C.due("rests()", x.rests(0, 0, 1) >= 1, true);
        }
    }
}
