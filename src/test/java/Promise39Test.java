/** Promise 39: seed. */
public final class Promise39Test {
    private static final Cases C = new Cases(Promise39Test.class);

    public static void main(String[] args) throws ReflectiveOperationException {
        C.run();
    }

    static void whichSeed() {
        C.edges(Texts.FULL, 2, "seed()", 0, 65536, (x, v) -> x.seed(v));
    }

    static void noKitchenAheadOfTheNumber() {
        for (int v : new int[] {-1, 0, 65536, 65537}) {
            LongerHalf x = new LongerHalf();
            C.refuses(x, 1, "seed(" + v + ")", () -> x.seed(v));
        }
    }

    static void itIsTold() {
        LongerHalf x = Check.told(Texts.FULL);
        for (int v : new int[] {65536, 0, 1, 65535}) {
            C.due("seed(" + v + ")", x.seed(v), true);
            C.due("size(10)", x.size(10), v);
        }
    }

    static void itIsNoAct() {
        LongerHalf x = Check.told(Texts.FULL);
        x.seed(7);
        C.due("size(11)", x.size(11), 0);
        C.refuses(x, 6, "undo()", () -> x.undo());
        C.due("size(10)", x.size(10), 7);
    }
}
