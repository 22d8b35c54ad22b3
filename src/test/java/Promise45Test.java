/** Promise 45: trouble, by TROUBLE of terms IV. */
public final class Promise45Test {
    private static final Cases C = new Cases(Promise45Test.class);

    public static void main(String[] args) throws ReflectiveOperationException {
        C.run();
    }

    private static void trouble(LongerHalf x, int due) {
        C.due("trouble()", x.trouble(), due);
        C.due("trouble() asked again", x.trouble(), due);
    }

    static void zeroOfANewObject() {
        trouble(new LongerHalf(), 0);
    }

    static void eachNumber() {
        LongerHalf x = Check.told(Texts.FULL);
        trouble(x, 0);
        x.bone(3, 0);
        trouble(x, 1);
        x.dry(25);
        trouble(x, 2);
        for (int i = 0; i < 4; i++) {
            x.mark();
        }
        trouble(x, 3);
        Check.tell(x, "kitchen");
        trouble(x, 4);
        x.boil(2);
        trouble(x, 5);
        x.undo();
        trouble(x, 6);
        x.bone(2, 0);
        trouble(x, 0);
    }

    /** Of the latest one: each call that may be refused, and isn't, leaves 0 behind. */
    static void zeroBehindEachCallThatIsntRefused() {
        Cases.Call[] calls = {
            (x, v) -> x.bone(0, 0), (x, v) -> x.thick(0, 0, 0), (x, v) -> x.person(0, 0), (x, v) -> x.strength(0, 0, 0, 0),
            (x, v) -> x.strain(0, 0, 0, 0, 1, 1, 1, 2), (x, v) -> x.pulled(0, 0, 1, 1, 1, 2),
            (x, v) -> x.breaksAt(0, 0, 1, 1, 1, 2), (x, v) -> x.flawed(0, 0, 1, 1, 1, 2, 0, 0),
            (x, v) -> x.odds(0, 0, 1, 1, 1, 2, 0, true), (x, v) -> x.best(0, 0, 1, 1), (x, v) -> x.rests(0, 0, 1),
            (x, v) -> x.rest(0, 0, 1), (x, v) -> x.sure(0, 0, 1, true), (x, v) -> x.curve(0, 0, 1, 0, true),
            (x, v) -> x.bestDay(0, 0, 1), (x, v) -> x.lawOdds(0, 0, 0, 1, true), (x, v) -> x.fairest(0, 0, 1),
            (x, v) -> x.turnsOf(1), (x, v) -> x.turnAt(1, 0), (x, v) -> x.hand(0, true), (x, v) -> x.side(true),
            (x, v) -> x.known(), (x, v) -> x.hens(1), (x, v) -> x.thumbs(3, true), (x, v) -> x.let(0, 1),
            (x, v) -> x.worth(0), (x, v) -> x.knob(0), (x, v) -> x.owners(0), (x, v) -> x.wins(0, 0, 0),
            (x, v) -> x.spoilt(0, 0, true), (x, v) -> x.dry(1), (x, v) -> x.boil(0),
            (x, v) -> x.pull(0, 0, 1, 1, 1, 2), (x, v) -> x.seed(0), (x, v) -> x.mark(),
        };
        for (Cases.Call call : calls) {
            LongerHalf x = Check.told(Texts.FULL);
            x.boil(9);
            C.due("trouble() ahead", x.trouble(), 1);
            call.ask(x, 0);
            C.due("trouble() behind", x.trouble(), 0);
        }
    }

    static void zeroBehindUndoBackAndKitchen() {
        LongerHalf x = Check.told(Texts.FULL);
        x.mark();
        x.dry(1);
        x.boil(9);
        x.undo();
        trouble(x, 0);
        x.boil(9);
        x.back(0);
        trouble(x, 0);
        x.boil(9);
        Check.tell(x, Texts.LEAST);
        trouble(x, 0);
    }

    /** No number is told of feed, fault, where, led, size and trouble. */
    static void callsWithoutANumberLeaveIt() {
        LongerHalf x = Check.told(Texts.FULL);
        x.undo();
        x.feed(1, 2, 3, 4, 5);
        trouble(x, 6);
        x.fault();
        x.where();
        x.size(-1);
        x.led(0);
        trouble(x, 6);
        x.known();
        x.feed(1, 2, 3, 4, 5);
        trouble(x, 0);
    }

    static void anAnswerOfNoneThatIsNotRefused() {
        LongerHalf x = Check.told(Texts.FULL);
        C.due("breaksAt() is -2", x.breaksAt(2, 0, 1, 1, 1, 2), -2);
        trouble(x, 0);
        C.due("turnsOf() is 0", Check.told(Texts.people(2)).turnsOf(2), 0);
    }
}
