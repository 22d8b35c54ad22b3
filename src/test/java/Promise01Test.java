import java.util.NoSuchElementException;

/** Promise 1: a new object has no KITCHEN. */
public final class Promise01Test {
    private static final Cases C = new Cases(Promise01Test.class);

    public static void main(String[] args) throws ReflectiveOperationException {
        C.run();
    }

    static void sizesAreZeroForWhatThereIsnt() {
        for (int what = 0; what <= 13; what++) {
            C.due("size(" + what + ")", new LongerHalf().size(what), 0);
        }
    }

    static void nothingWasRefusedYet() {
        LongerHalf x = new LongerHalf();
        C.due("trouble()", x.trouble(), 0);
        C.due("fault()", x.fault(), 0);
        C.due("where()", x.where(), -1);
    }

    static void bonesAndPeopleAreNone() {
        C.needsKitchen("bone()", (x, v) -> x.bone(v, 0));
        C.needsKitchen("thick()", (x, v) -> x.thick(v, 0, 0));
        C.needsKitchen("person()", (x, v) -> x.person(v, 0));
    }

    static void pullsCannotBeAsked() {
        C.needsKitchen("strength()", (x, v) -> x.strength(v, 0, 0, 0));
        C.needsKitchen("strain()", (x, v) -> x.strain(v, 0, 0, 0, 1, 1, 1, 2));
        C.needsKitchen("pulled()", (x, v) -> x.pulled(v, 0, 1, 1, 1, 2));
        C.needsKitchen("breaksAt()", (x, v) -> x.breaksAt(v, 0, 1, 1, 1, 2));
        C.needsKitchen("flawed()", (x, v) -> x.flawed(v, 0, 1, 1, 1, 2, 0, 0));
        C.needsKitchen("odds()", (x, v) -> x.odds(v, 0, 1, 1, 1, 2, 0, true));
    }

    static void holdsDaysAndLawsCannotBeAsked() {
        C.needsKitchen("best()", (x, v) -> x.best(v, 0, 1, 1));
        C.needsKitchen("rests()", (x, v) -> x.rests(v, 0, 1));
        C.needsKitchen("rest()", (x, v) -> x.rest(v, 0, 1));
        C.needsKitchen("sure()", (x, v) -> x.sure(v, 0, 1, true));
        C.needsKitchen("curve()", (x, v) -> x.curve(v, 0, 1, 0, true));
        C.needsKitchen("bestDay()", (x, v) -> x.bestDay(v, 0, 1));
        C.needsKitchen("lawOdds()", (x, v) -> x.lawOdds(0, v, 0, 1, true));
        C.needsKitchen("fairest()", (x, v) -> x.fairest(v, 0, 1));
    }

    static void turnsHandsWishesAndYearsCannotBeAsked() {
        C.needsKitchen("turnsOf()", (x, v) -> x.turnsOf(1));
        C.needsKitchen("turnAt()", (x, v) -> x.turnAt(1, v));
        C.needsKitchen("hand()", (x, v) -> x.hand(v, true));
        C.needsKitchen("side()", (x, v) -> x.side(true));
        C.needsKitchen("known()", (x, v) -> x.known());
        C.needsKitchen("hens()", (x, v) -> x.hens(1));
        C.needsKitchen("thumbs()", (x, v) -> x.thumbs(v, true));
        C.needsKitchen("let()", (x, v) -> x.let(v, 1));
        C.needsKitchen("worth()", (x, v) -> x.worth(v));
        C.needsKitchen("knob()", (x, v) -> x.knob(v));
        C.needsKitchen("owners()", (x, v) -> x.owners(v));
        C.needsKitchen("wins()", (x, v) -> x.wins(v, 0, 1));
        C.needsKitchen("spoilt()", (x, v) -> x.spoilt(v, 1, true));
    }

    static void actsAndMarksCannotBeDone() {
        C.needsKitchen("dry()", (x, v) -> x.dry(1));
        C.needsKitchen("boil()", (x, v) -> x.boil(v));
        C.needsKitchen("pull()", (x, v) -> x.pull(v, 0, 1, 1, 1, 2));
        C.needsKitchen("seed()", (x, v) -> x.seed(v));
        C.needsKitchen("mark()", (x, v) -> x.mark());
        C.needsKitchen("back()", (x, v) -> x.back(v));
        LongerHalf x = new LongerHalf();
        C.refuses(x, 6, "undo()", () -> x.undo());
    }

    static void noBoneIsLed() {
        boolean threw = false;
        try {
            new LongerHalf().led(0);
        } catch (NoSuchElementException e) {
            threw = true;
        }
        C.due("led(0) throws", threw, true);
    }
}
