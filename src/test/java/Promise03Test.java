/** Promise 3: kitchen, what it answers, refuses, and begins anew. */
public final class Promise03Test {
    private static final Cases C = new Cases(Promise03Test.class);
    private static final String L = Texts.LEAST;

    public static void main(String[] args) throws ReflectiveOperationException {
        C.run();
    }

    /** A KITCHEN in which something is dried, pulled, boiled, seeded and marked. */
    private static LongerHalf used() {
        LongerHalf x = Check.told(Texts.FULL);
        x.dry(1);
        x.mark();
        x.boil(1);
        x.pull(0, 0, 2, 1, 3, 2);
        x.seed(77);
        return x;
    }

    static void fewerThanNoBytes() {
        LongerHalf x = new LongerHalf();
        Check.feed(x, Check.bytes(L));
        C.refuses(x, 2, "kitchen(-1)", () -> x.kitchen(-1));
        C.refuses(x, 2, "kitchen() of the least int", () -> x.kitchen(Integer.MIN_VALUE));
    }

    static void moreBytesThanTheTapeHas() {
        LongerHalf x = new LongerHalf();
        Check.feed(x, Check.bytes(L));
        int has = x.size(13);
        C.refuses(x, 2, "kitchen() of one more", () -> x.kitchen(has + 1));
        C.refuses(x, 2, "kitchen() of the greatest int", () -> x.kitchen(Integer.MAX_VALUE));
        C.due("the tape stays: kitchen()", x.kitchen(L.length()), 1);
    }

    static void oneByteOfAnEmptyTape() {
        LongerHalf x = new LongerHalf();
        C.refuses(x, 2, "kitchen(1)", () -> x.kitchen(1));
    }

    static void noByteIsATextWithoutALine() {
        LongerHalf x = new LongerHalf();
        C.refused(x, "kitchen(0)", x.kitchen(0), 4);
        C.due("where()", x.where(), 0);
    }

    static void asManyBytesAsTheTapeHas() {
        String text = L + " ".repeat(20 - L.length() % 20);
        LongerHalf x = new LongerHalf();
        Check.feed(x, Check.bytes(text));
        C.due("size(13)", x.size(13), text.length());
        C.due("kitchen() of all", x.kitchen(text.length()), 1);
    }

    static void aTextOfThousandBytes() {
        String text = L + " ".repeat(1000 - L.length() - 30) + " ;won a b left;piece right   5";
        C.due("its length", text.length(), 1000);
        LongerHalf x = C.sound(text);
        C.due("size(9)", x.size(9), 1);
        LongerHalf y = new LongerHalf();
        Check.feed(y, Check.bytes(text));
        C.refused(y, "kitchen() of one byte less", y.kitchen(999), 4);
        C.due("where()", y.where(), 999);
    }

    static void theFirstBytesAreTakenAndTheOthersGo() {
        LongerHalf x = new LongerHalf();
        Check.feed(x, Check.bytes(L + ";won a b left;!!"));
        C.due("kitchen() of the first bytes", x.kitchen(L.length()), 1);
        C.due("size(8)", x.size(8), 0);
        C.due("size(13)", x.size(13), 0);
    }

    static void theTapeIsEmptyBehindAFault() {
        LongerHalf x = new LongerHalf();
        Check.feed(x, Check.bytes(L));
        C.refused(x, "kitchen(3)", x.kitchen(3), 4);
        C.due("size(13)", x.size(13), 0);
    }

    static void withAFaultTheKitchenStays() {
        LongerHalf x = used();
        String before = Cases.shown(x).replaceAll("\\d+$", "");
        C.refused(x, "kitchen() with a FAULT", Check.tell(x, L + ";person c plain force 41"), 4);
        C.due("nothing else has changed", Cases.shown(x).startsWith(before), true);
        C.due("undo() goes on", x.undo(), true);
        C.due("back(0) goes on", x.back(0), true);
    }

    static void withAFaultThereIsStillNone() {
        LongerHalf x = new LongerHalf();
        C.refused(x, "kitchen() with a FAULT", Check.tell(x, L + ";"), 4);
        C.due("size(5)", x.size(5), 0);
        C.refuses(x, 1, "known()", () -> x.known());
    }

    static void aNewKitchenBeginsAnew() {
        LongerHalf x = used();
        C.due("kitchen()", Check.tell(x, Texts.FULL), 3);
        C.due("all is as of a new one", Cases.shown(x).equals(Cases.shown(Check.told(Texts.FULL))), true);
        C.due("SEED", x.size(10), 0);
        C.refuses(x, 6, "undo()", () -> x.undo());
        C.refuses(x, 1, "back(0)", () -> x.back(0));
        C.due("mark()", x.mark(), 0);
    }

    /** Nothing of a greater KITCHEN shows through a lesser one, nor the other way round. */
    static void aLesserKitchenInPlaceOfAGreater() {
        LongerHalf x = used();
        C.due("kitchen()", Check.tell(x, L), 1);
        C.due("all is as of a new one", Cases.shown(x).equals(Cases.shown(Check.told(L))), true);
        C.refuses(x, 6, "thumbs(0)", () -> x.thumbs(0, true));
        C.refuses(x, 1, "knob(0)", () -> x.knob(0));
        C.due("worth(0)", x.worth(0), 1);
        C.part("side()", x.side(false), x.side(true), 1, 1);
        Check.tell(x, L + ";cheats a 9 thumb 9 fair 9;for a b 7");
        Check.tell(x, L + ";for a b 5");
        C.refuses(x, 6, "thumbs(0)", () -> x.thumbs(0, true));
        C.due("worth(0)", x.worth(0), 6);
    }

    /** Nor does anything of the KITCHEN ahead of that, or of a text with a FAULT at its very end. */
    static void aThirdKitchenInPlaceOfASecond() {
        String[] texts = {Texts.FULL, L, L + ";won b a right;cheats b 50 thumb 1 fair 2", Texts.FULL + ";",
            L, Texts.people(6), L};
        LongerHalf x = new LongerHalf();
        for (String text : texts) {
            Check.tell(x, text);
            LongerHalf fresh = new LongerHalf();
            Check.tell(fresh, text);
            if (fresh.fault() == 0) {
                C.due("shown of " + text, Cases.shown(x).equals(Cases.shown(fresh)), true);
                C.part("side()", x.side(false), x.side(true), fresh.side(false), fresh.side(true));
                for (int p = 0; p < 2; p++) {
                    C.part("hand()", x.hand(p, false), x.hand(p, true), fresh.hand(p, false), fresh.hand(p, true));
                    C.part("thumbs()", x.thumbs(p, false), x.thumbs(p, true), fresh.thumbs(p, false), fresh.thumbs(p, true));
                    C.due("worth()", x.worth(p), fresh.worth(p));
                }
            }
        }
    }

    static void itAnswersHowManyBones() {
        for (int bones = 1; bones <= 5; bones++) {
            String text = L + Texts.more("bone # hen dry 1 left 1,1 right 1,1", 10, bones - 1);
            C.due("kitchen()", Check.tell(new LongerHalf(), text), bones);
        }
    }
}
