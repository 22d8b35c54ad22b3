/** "What it is": the bound of a run, 512 calls of one object. */
public final class Promise00Test {
    private static final int CALLS = 512;
    private static final Cases C = new Cases(Promise00Test.class);

    public static void main(String[] args) throws ReflectiveOperationException {
        C.run();
    }

    /** 50 calls of feed() fill THE TAPE; the 512th call is answered as the first was. */
    static void theLastOf512CallsAnswersAsTheFirst() {
        LongerHalf x = new LongerHalf();
        String text = Texts.FULL + " ".repeat(1000 - Texts.FULL.length());
        Check.feed(x, Check.bytes(text));
        C.due("kitchen(1000)", x.kitchen(1000), 3);
        int due = Check.told(Texts.FULL).wins(1, 4711, 200);
        for (int call = 52; call <= CALLS; call++) {
            C.due("wins(1, 4711, 200) as call " + call, x.wins(1, 4711, 200), due);
        }
    }

    static void actsUpToThe512thAreCounted() {
        LongerHalf x = new LongerHalf();
        int fed = (Texts.LEAST.length() + 19) / 20;
        Check.tell(x, Texts.LEAST);
        for (int call = fed + 2; call < CALLS; call++) {
            x.dry(1);
        }
        C.due("size(11) as call 512", x.size(11), 16);
    }

    /** 51 calls for each KITCHEN: ten of them within the bound, each in place of the one ahead of it. */
    static void kitchensOneBehindTheOtherWithinTheBound() {
        LongerHalf x = new LongerHalf();
        for (int i = 0; i < 10; i++) {
            String text = i % 2 == 0 ? Texts.FULL : Texts.LEAST;
            Check.feed(x, Check.bytes(text + " ".repeat(1000 - text.length())));
            C.due("kitchen(1000)", x.kitchen(1000), i % 2 == 0 ? 3 : 1);
        }
        C.due("size(6) as call 511", x.size(6), 2);
        C.due("size(8) as call 512", x.size(8), 0);
    }
}
