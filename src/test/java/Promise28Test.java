/** Promise 28: hens, by HENS of terms III. */
public final class Promise28Test {
    private static final Cases C = new Cases(Promise28Test.class);

    public static void main(String[] args) throws ReflectiveOperationException {
        C.run();
    }

    static void oneInHowMany() {
        C.edges(Texts.LEAST, 2, "hens()", 1, 1000000, (x, v) -> x.hens(v));
    }

    static void noKitchenAheadOfTheNumber() {
        for (int n : new int[] {0, 1, 1000000, 1000001}) {
            LongerHalf x = new LongerHalf();
            C.refuses(x, 1, "hens(" + n + ")", () -> x.hens(n));
        }
    }

    static void noPullsForOneInOne() {
        C.due("hens(1)", Check.told(Texts.LEAST).hens(1), 0);
    }

    /** No more likely: one in a power of two is met by that many, one more needs another pull. */
    static void powersOfTwoAndTheNumbersBesideThem() {
        LongerHalf x = Check.told(Texts.LEAST);
        for (int pulls = 1; pulls <= 19; pulls++) {
            C.due("hens(" + (1 << pulls) + ")", x.hens(1 << pulls), pulls);
            C.due("hens(" + ((1 << pulls) + 1) + ")", x.hens((1 << pulls) + 1), pulls + 1);
            if (pulls > 1) {
                C.due("hens(" + ((1 << pulls) - 1) + ")", x.hens((1 << pulls) - 1), pulls);
            }
        }
    }

    static void theMost() {
        C.due("hens(1000000)", Check.told(Texts.LEAST).hens(1000000), 20);
        C.due("hens(999999)", Check.told(Texts.LEAST).hens(999999), 20);
    }
}
