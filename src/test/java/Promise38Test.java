/** Promise 38: pull, by PULL of terms III. */
public final class Promise38Test {
    private static final Cases C = new Cases(Promise38Test.class);

    public static void main(String[] args) throws ReflectiveOperationException {
        C.run();
    }

    /** The least and the greatest of these bones are no goose's. */
    static void asAPullIsRefused() {
        C.edgesOfPull("pull()", LongerHalf::pull);
    }

    static void aGooses() {
        LongerHalf x = Check.told(Texts.FULL);
        C.refuses(x, 5, "a goose's", () -> x.pull(1, 0, 2, 1, 2, 2));
        x.boil(1);
        C.refuses(x, 5, "a boiled goose's", () -> x.pull(1, 0, 2, 1, 2, 2));
    }

    /** A goose's bone answers as a hen's does, told alike, whatever is asked; it is pulled alone that it isn't. */
    static void allIsAskedOfAGoosesAsOfOthers() {
        String text = Texts.FULL.replace("h hen dry", "h # dry");
        LongerHalf hen = Check.told(text.replace("#", "hen"));
        LongerHalf goose = Check.told(text.replace("#", "goose"));
        Cases.Call[] calls = {
            (x, v) -> x.bone(0, 1), (x, v) -> x.thick(0, v % 2, 1), (x, v) -> x.strength(0, v % 2, 1, 3),
            (x, v) -> x.strain(0, 1, 0, 0, 2, 1, 3, v), (x, v) -> x.pulled(0, 0, 2, 1, 3, v),
            (x, v) -> x.breaksAt(0, 0, 2, 1, 3, v), (x, v) -> x.flawed(0, 0, 2, 1, 3, 2, v % 2, v / 2),
            (x, v) -> x.odds(0, 0, 2, 1, 3, 2, v, false), (x, v) -> x.odds(0, 0, 2, 1, 3, 2, v, true),
            (x, v) -> x.best(0, 0, 1, 1), (x, v) -> x.rests(0, v, (v + 1) % 4), (x, v) -> x.rest(0, v, (v + 1) % 4),
            (x, v) -> x.sure(0, v, (v + 1) % 4, true), (x, v) -> x.curve(0, 0, 1, 10 + v, true),
            (x, v) -> x.bestDay(0, v, (v + 1) % 4), (x, v) -> x.lawOdds(v, 0, 0, 1, false),
            (x, v) -> x.fairest(0, v, (v + 1) % 4), (x, v) -> x.knob(v % 2), (x, v) -> x.owners(v % 2),
            (x, v) -> x.wins(v, 0, 50), (x, v) -> x.spoilt(v, 50, true), (x, v) -> x.led(v % 3),
        };
        for (int i = 0; i < calls.length; i++) {
            for (int v = 0; v < 4; v++) {
                C.due("call " + i + " of " + v, calls[i].ask(goose, v).equals(calls[i].ask(hen, v)), true);
            }
        }
        C.refuses(goose, 5, "pull()", () -> goose.pull(0, 0, 2, 1, 3, 2));
        C.allows(hen, "pull()", () -> hen.pull(0, 0, 2, 1, 3, 2));
    }

    static void aGoneOne() {
        LongerHalf x = Check.told(Texts.FULL);
        x.pull(0, 0, 2, 1, 3, 2);
        C.refuses(x, 5, "gone", () -> x.pull(0, 0, 2, 1, 3, 2));
        x.undo();
        C.allows(x, "undone", () -> x.pull(0, 0, 2, 1, 3, 2));
    }

    static void by1Then2Then5() {
        LongerHalf x = Check.told(Texts.FULL);
        C.refuses(x, 1, "like people, no hold, a goose's", () -> x.pull(1, 0, 0, 0, 1, 2));
        C.refuses(x, 2, "no hold, a goose's", () -> x.pull(1, 0, 3, 1, 1, 2));
        C.refuses(x, 2, "nobody such moves, a goose's", () -> x.pull(1, 0, 1, 1, 1, 4));
        x.pull(0, 0, 2, 1, 3, 2);
        C.refuses(x, 2, "no hold, gone", () -> x.pull(0, 0, 1, 1, 4, 2));
        C.refuses(x, 1, "no bone", () -> x.pull(3, 0, 1, 1, 1, 2));
    }

    private static void pull(LongerHalf x, int came, int gone, int winsOfP, int winsOfQ) {
        C.due("pull()", x.pull(0, 0, 1, 1, 1, 2), came);
        C.due("trouble()", x.trouble(), 0);
        C.due("gone", x.bone(0, 4), gone);
        C.due("WINS of p", x.person(0, 6), winsOfP);
        C.due("WINS of q", x.person(1, 6), winsOfQ);
        C.due("an act", x.size(11), 1);
    }

    static void whatComes() {
        pull(Check.told(Texts.brittle("9,9", "1,9")), 0, 1, 1, 0);
        pull(Check.told(Texts.brittle("1,9", "9,9")), 1, 1, 0, 1);
        pull(Check.told(Texts.brittle("1,9", "1,9")), 2, 1, 0, 0);
        pull(Check.told(Texts.brittle("9,9", "9,9")), 3, 0, 0, 0);
    }

    static void aBentOneMayBePulledAgain() {
        LongerHalf x = Check.told(Texts.FULL);
        C.due("boiled", x.pull(2, 0, 2, 1, 2, 2), 3);
        C.due("again", x.pull(2, 0, 2, 1, 2, 2), 3);
        C.due("acts", x.size(11), 2);
    }

    /** From SEED 0 the DRAWS are 74, and 5,624: place 0 of four. */
    static void aDrawBelowFlawAndOneMore() {
        LongerHalf x = Check.told(Texts.flawed(75, "3,9", "9,9"));
        C.due("74 is below 75", x.pull(0, 0, 1, 1, 1, 2), 1);
        C.due("two DRAWS", x.size(10), 5624);
        LongerHalf y = Check.told(Texts.flawed(74, "3,9", "9,9"));
        C.due("74 is not below 74", y.pull(0, 0, 1, 1, 1, 2), 3);
        C.due("one DRAW", y.size(10), 74);
        LongerHalf z = Check.told(Texts.flawed(0, "3,9", "9,9"));
        z.pull(0, 0, 1, 1, 1, 2);
        C.due("one DRAW without any flaw", z.size(10), 74);
    }

    /** From 28,652 on: 51,790, 90 of a hundred; 17,641, 8 of eleven: right 3 behind five on the left. */
    static void whichOfAllPlaces() {
        LongerHalf x = Check.told(Texts.flawed(91, "9,9,9,9,9", "9,9,9,3,9,9"));
        x.seed(28652);
        C.due("right 3", x.pull(0, 0, 1, 1, 4, 2), 0);
        C.due("size(10)", x.size(10), 17641);
    }

    static void theGreatestSeed() {
        LongerHalf x = Check.told(Texts.flawed(37, "3,9", "9,9"));
        x.seed(65536);
        C.due("36 is below 37, place 0", x.pull(0, 0, 1, 1, 1, 2), 1);
        C.due("followed by itself", x.size(10), 65536);
    }

    static void drawsThoughItBendsAnyhow() {
        LongerHalf x = Check.told(Texts.flawed(99, "1,9", "9,9"));
        x.boil(0);
        C.due("boiled", x.pull(0, 0, 1, 1, 1, 2), 3);
        C.due("two DRAWS", x.size(10), 5624);
    }

    /** Refused it draws nothing, and nothing can be undone by it. */
    static void refusedNoDraw() {
        LongerHalf x = Check.told(Texts.FULL);
        x.pull(1, 0, 1, 1, 1, 2);
        x.pull(0, 0, 0, 1, 1, 2);
        C.due("size(10)", x.size(10), 0);
        C.refuses(x, 6, "undo()", () -> x.undo());
    }
}
