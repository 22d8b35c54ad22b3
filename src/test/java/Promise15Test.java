/** Promise 15: best. */
public final class Promise15Test {
    private static final Cases C = new Cases(Promise15Test.class);

    public static void main(String[] args) throws ReflectiveOperationException {
        C.run();
    }

    static void asAPairIsRefused() {
        C.edgesOfPair("best()", (x, b, p, q) -> x.best(b, p, q, 1));
    }

    /** 1 up to how many thicknesses the right arm has. */
    static void againstWhichHold() {
        C.edges(Texts.FULL, 2, "best() hq", 1, 3, (x, v) -> x.best(0, 0, 1, v));
        C.edges(Texts.brittle("1,1,1,1,1,1", "1,1"), 2, "best() hq", 1, 2, (x, v) -> x.best(0, 0, 1, v));
    }

    static void by1AheadOf2() {
        LongerHalf x = Check.told(Texts.FULL);
        C.refuses(x, 1, "no bone, no hold", () -> x.best(3, 0, 1, 0));
        C.refuses(x, 1, "like people, no hold", () -> x.best(0, 0, 0, 4));
    }

    /** All alike: the first place, not moving; a child can't but move. */
    static void theFirstOfLikeOnes() {
        LongerHalf x = Check.told(Texts.FULL);
        C.due("of a boiled one", x.best(2, 0, 1, 1), 10);
        C.due("of a boiled one, a child", x.best(2, 2, 1, 1), 11);
    }

    private static double odds(LongerHalf x, int hp, int moves, int hq) {
        return (double) x.odds(0, 0, hp, 1, hq, moves, 0, false) / x.odds(0, 0, hp, 1, hq, moves, 0, true);
    }

    /** The right arm breaks if q holds at 2; the left one does more if p holds further out, or moves. */
    static void thatOfGreatestOdds() {
        String text = Texts.of(Texts.rules(0, 25, 3, 0, 50), Texts.hen("h", "3,2,9", "3,9"), Texts.PAIR);
        LongerHalf x = Check.told(text);
        for (int hq = 1; hq <= 2; hq++) {
            int best = x.best(0, 0, 1, hq);
            double most = odds(x, best / 10, best % 10 == 1 ? 0 : 2, hq);
            for (int hp = 1; hp <= 3; hp++) {
                for (int moves = 0; moves <= 2; moves += 2) {
                    boolean ahead = 10 * hp + (moves == 0 ? 1 : 0) < best;
                    double odds = odds(x, hp, moves, hq);
                    C.due("best() against " + hq + " and " + hp, ahead ? odds < most : odds <= most, true);
                }
            }
        }
        C.due("hold 2 is worse than 1", odds(x, 2, 2, 2) < odds(x, 1, 2, 2), true);
        C.due("moving is worse than not", odds(x, 1, 0, 2) < odds(x, 1, 2, 2), true);
    }
}
