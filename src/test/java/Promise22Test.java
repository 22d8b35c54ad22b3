/** Promise 22: fairest. */
public final class Promise22Test {
    private static final Cases C = new Cases(Promise22Test.class);

    public static void main(String[] args) throws ReflectiveOperationException {
        C.run();
    }

    static void asAPairIsRefused() {
        C.edgesOfPair("fairest()", LongerHalf::fairest);
    }

    static void theFirstIfAllAreAlike() {
        C.due("all bends", Check.told(Texts.LEAST).fairest(0, 0, 1), 0);
        C.due("all is THREE", Check.told(Texts.brittle("1,9", "1,9")).fairest(0, 0, 1), 0);
    }

    /** A FLAW in one of both left places, 99 in a hundred: the left arm breaks by 99 of 200; 0, 99/200, 0, 99/400. */
    static void theFirstChooses() {
        C.due("fairest()", Check.told(Texts.flawed(99, "5,3", "9,9").replace("hold 6", "hold 2")).fairest(0, 0, 1), 1);
    }

    /** 1, 1, 99/200, 299/400: a holds at 1, b at 2, and b, choosing, takes the left arm. */
    static void theOtherOneChooses() {
        LongerHalf x = Check.told(Texts.of(Texts.rules(0, 25, 0, 0, 99), Texts.hen("h", "5,3", "3,9"),
                Texts.person("a", "plain", 1, 1), Texts.person("b", "plain", 1, 2)));
        C.part("law 2", x.lawOdds(2, 0, 0, 1, false), x.lawOdds(2, 0, 0, 1, true), 99, 200);
        C.due("fairest()", x.fairest(0, 0, 1), 2);
    }

    /** 0, 1, 0, 1/2. */
    static void byLot() {
        C.due("fairest()", Check.told(Texts.brittle("1,9", "9,9")).fairest(0, 0, 1), 3);
    }

    /** 99/400, 99/400, 0, 99/800. */
    static void theFirstOfTwoAlike() {
        LongerHalf x = Check.told(Texts.flawed(99, "9,9", "3,9").replace("hold 6", "hold 1"));
        C.due("fairest()", x.fairest(0, 0, 1), 0);
    }

    static void byTheBoneOfNow() {
        LongerHalf x = Check.told(Texts.brittle("1,9", "9,9"));
        x.boil(0);
        C.due("all bends now", x.fairest(0, 0, 1), 0);
    }
}
