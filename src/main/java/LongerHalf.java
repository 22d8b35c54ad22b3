import java.util.NoSuchElementException;

/** Bones with two arms, and who gets the longer half: see the document for what each call promises. */
public final class LongerHalf {
    /** There is none; refused. */
    public static final int NONE = -1;

    private static final int NOWHERE = -2;

    private static final int MOST_BONES = 5;
    private static final int MOST_PEOPLE = 6;
    private static final int MOST_PLACES = 6;
    private static final int MOST_DAYS = 24;
    private static final int MOST_WEEKS = 9;
    private static final int MOST_SUNDAYS = 200;
    private static final int MOST_SEED = 65536;
    /** More than any ODDS in their parts, or turns, come to. */
    private static final int ABOVE_ALL = 1000000;

    private static final int LEFT = 0;
    private static final int RIGHT = 1;

    private static final int GOOSE = 1;
    private static final int BOILED = 2;

    private static final int COOK = 1;
    private static final int CHILD = 2;
    private static final int CHEAT = 3;

    /** What comes of a PULL. */
    private static final int LEFT_WINS = 0;
    private static final int RIGHT_WINS = 1;
    private static final int THREE = 2;
    private static final int BENDS = 3;

    private static final int NOBODY_MOVES = 2;
    private static final int BOTH_MOVE = 3;

    private static final int BY_LOT = 3;

    /** TROUBLE. */
    private static final int FINE = 0;
    private static final int NO_SUCH = 1;
    private static final int BAD_NUMBER = 2;
    private static final int NO_ROOM = 3;
    private static final int FAULTY = 4;
    private static final int NOT_SO = 5;
    private static final int NOTHING = 6;

    private final Reader reader;
    private final State now;
    private final History history;
    private final Pull pulling;
    private final Game game;
    private final Turns turns;
    /** Of the latest YEAR: WINS by people, then how many were THREE, then how many BENT. */
    private final int[] year;
    private Kitchen told;
    private int trouble;

    public LongerHalf() {
        reader = new Reader();
        now = new State();
        history = new History();
        pulling = new Pull();
        game = new Game();
        turns = new Turns();
        year = new int[MOST_PEOPLE + 2];
        told = new Kitchen();
        trouble = FINE;
    }

    // ---- the kitchen

    public int feed(int a, int b, int c, int d, int e) {
        Tape tape = reader.tape;
        if (!tape.hasRoom(20)) {
            return NONE;
        }
        tape.add(a);
        tape.add(b);
        tape.add(c);
        tape.add(d);
        tape.add(e);
        return tape.length;
    }

    public int kitchen(int n) {
        if (n < 0 || n > reader.tape.length) {
            return refuse(BAD_NUMBER);
        }
        boolean sound = reader.read(n);
        reader.tape.length = 0;
        if (!sound) {
            return refuse(FAULTY);
        }
        // the KITCHEN that goes becomes the room for the next reading
        Kitchen old = told;
        told = reader.fresh;
        reader.fresh = old;
        now.begin(told);
        history.clear();
        trouble = FINE;
        return told.boneCount;
    }

    public int fault() {
        return reader.fault;
    }

    public int where() {
        return trouble == FAULTY ? reader.place : NONE;
    }

    // ---- as told

    public int bone(int b, int what) {
        trouble = isBone(b) && what >= 0 && what <= 4 ? FINE : NO_SUCH;
        if (trouble != FINE) {
            return NONE;
        }
        switch (what) {
            case 0:
                return now.kinds[b];
            case 1:
                return now.days[b];
            case 2:
                return told.bones[b].places[LEFT];
            case 3:
                return told.bones[b].places[RIGHT];
            default:
                return now.gone[b] ? 1 : 0;
        }
    }

    public int thick(int b, int arm, int place) {
        trouble = isPlace(b, arm, place) ? FINE : NO_SUCH;
        return trouble == FINE ? told.bones[b].thickAt(arm, place) : NONE;
    }

    public int person(int p, int what) {
        trouble = isPerson(p) && what >= 0 && what <= 6 ? FINE : NO_SUCH;
        if (trouble != FINE) {
            return NONE;
        }
        Person one = told.people[p];
        switch (what) {
            case 0:
                return one.kind;
            case 1:
                return one.force;
            case 2:
                return one.hold;
            case 3:
                return one.wish;
            case 4:
                return one.won + one.lost;
            case 5:
                return one.won;
            default:
                return now.won[p];
        }
    }

    // ---- a pull

    public int strength(int b, int arm, int place, int p) {
        trouble = isPlace(b, arm, place) && isPerson(p) ? FINE : NO_SUCH;
        if (trouble != FINE) {
            return NONE;
        }
        takeNow(b);
        Arm held = pulling.left;
        pulling.grip(held, told.bones[b], arm, told.people[p], 1, false);
        return held.strength[place];
    }

    public int strain(int b, int arm, int place, int p, int hp, int q, int hq, int moves) {
        trouble = isPlace(b, arm, place) ? pullTrouble(b, p, hp, q, hq, moves) : NO_SUCH;
        if (trouble != FINE) {
            return NONE;
        }
        lay(b, p, hp, q, hq, moves);
        return arm == LEFT ? pulling.left.strain[place] : pulling.right.strain[place];
    }

    public int pulled(int b, int p, int hp, int q, int hq, int moves) {
        trouble = pullTrouble(b, p, hp, q, hq, moves);
        if (trouble != FINE) {
            return NONE;
        }
        lay(b, p, hp, q, hq, moves);
        return pulling.resolve(NONE);
    }

    public int breaksAt(int b, int p, int hp, int q, int hq, int moves) {
        trouble = pullTrouble(b, p, hp, q, hq, moves);
        if (trouble != FINE) {
            return NONE;
        }
        lay(b, p, hp, q, hq, moves);
        return pulling.breakPlace();
    }

    public int flawed(int b, int p, int hp, int q, int hq, int moves, int arm, int place) {
        trouble = isPlace(b, arm, place) ? pullTrouble(b, p, hp, q, hq, moves) : NO_SUCH;
        if (trouble != FINE) {
            return NONE;
        }
        lay(b, p, hp, q, hq, moves);
        return pulling.resolve(arm == LEFT ? place : pulling.left.places + place);
    }

    public long odds(int b, int p, int hp, int q, int hq, int moves, int what, boolean lower) {
        trouble = what >= LEFT_WINS && what <= BENDS ? pullTrouble(b, p, hp, q, hq, moves) : NO_SUCH;
        if (trouble != FINE) {
            return NONE;
        }
        lay(b, p, hp, q, hq, moves);
        pulling.weighLaid();
        return part(pulling.weight[what], pulling.whole, lower);
    }

    // ---- holds

    public int best(int b, int p, int q, int hq) {
        trouble = pairTrouble(b, p, q);
        if (trouble == FINE && !isHold(b, RIGHT, hq)) {
            trouble = BAD_NUMBER;
        }
        if (trouble != FINE) {
            return NONE;
        }
        Bone bone = told.bones[b];
        takeNow(b);
        pulling.pair(told.people[p], told.people[q]);
        pulling.grip(pulling.right, bone, RIGHT, told.people[q], hq, false);
        return game.bestAgainst(pulling, bone, told.people[p]);
    }

    public int rests(int b, int p, int q) {
        trouble = pairTrouble(b, p, q);
        if (trouble != FINE) {
            return NONE;
        }
        playNow(b, p, q);
        return game.countRests();
    }

    public int rest(int b, int p, int q) {
        trouble = pairTrouble(b, p, q);
        if (trouble != FINE) {
            return NONE;
        }
        playNow(b, p, q);
        return game.firstRest();
    }

    public long sure(int b, int p, int q, boolean lower) {
        trouble = pairTrouble(b, p, q);
        if (trouble != FINE) {
            return NONE;
        }
        playNow(b, p, q);
        return part(game.surest(), pulling.whole, lower);
    }

    // ---- drying, laws

    public long curve(int b, int p, int q, int days, boolean lower) {
        trouble = pairTrouble(b, p, q);
        if (trouble == FINE && (days < 0 || days > MOST_DAYS)) {
            trouble = BAD_NUMBER;
        }
        if (trouble != FINE) {
            return NONE;
        }
        int up = leftOddsDried(b, p, q, days);
        return part(up, pulling.whole, lower);
    }

    public int bestDay(int b, int p, int q) {
        trouble = pairTrouble(b, p, q);
        if (trouble != FINE) {
            return NONE;
        }
        int bestDay = 0;
        int greatest = NONE;
        for (int days = 0; days <= MOST_DAYS; days++) {
            int up = leftOddsDried(b, p, q, days);
            if (up > greatest) {
                greatest = up;
                bestDay = days;
            }
        }
        return bestDay;
    }

    public long lawOdds(int law, int b, int p, int q, boolean lower) {
        trouble = law >= 0 && law <= BY_LOT ? pairTrouble(b, p, q) : NO_SUCH;
        if (trouble != FINE) {
            return NONE;
        }
        int twice = twiceByLaw(law, b, p, q);
        return part(twice, 2L * pulling.whole, lower);
    }

    public int fairest(int b, int p, int q) {
        trouble = pairTrouble(b, p, q);
        if (trouble != FINE) {
            return NONE;
        }
        int fairest = 0;
        int nearest = ABOVE_ALL;
        for (int law = 0; law <= BY_LOT; law++) {
            int off = Math.abs(twiceByLaw(law, b, p, q) - pulling.whole);
            if (off < nearest) {
                nearest = off;
                fairest = law;
            }
        }
        return fairest;
    }

    // ---- turns

    public int turnsOf(int w) {
        trouble = weeksTrouble(w);
        if (trouble != FINE) {
            return NONE;
        }
        return turns.find(told.peopleCount, w) ? 1 : 0;
    }

    public int turnAt(int w, int i) {
        trouble = weeksTrouble(w);
        if (trouble == FINE && (i < 0 || i >= w)) {
            trouble = NO_SUCH;
        }
        if (trouble == FINE && !turns.find(told.peopleCount, w)) {
            trouble = NOTHING;
        }
        return trouble == FINE ? turns.pairs[i] : NONE;
    }

    // ---- bone or hand

    public long hand(int p, boolean lower) {
        trouble = isPerson(p) ? FINE : NO_SUCH;
        if (trouble != FINE) {
            return NONE;
        }
        Person one = told.people[p];
        int pulls = one.won + one.lost;
        return part(waysToWin(pulls, one.won), 1L << pulls, lower);
    }

    public long side(boolean lower) {
        trouble = hasKitchen() ? FINE : NO_SUCH;
        if (trouble != FINE) {
            return NONE;
        }
        return part(waysToWin(told.wonCount, told.leftWon), 1L << told.wonCount, lower);
    }

    public int known() {
        trouble = hasKitchen() ? FINE : NO_SUCH;
        if (trouble != FINE) {
            return NONE;
        }
        int bits = 0;
        for (int p = 0; p < told.peopleCount; p++) {
            Person one = told.people[p];
            int pulls = one.won + one.lost;
            if (waysToWin(pulls, one.won) * 20 <= 1L << pulls) {
                bits |= 1 << p;
            }
        }
        return bits;
    }

    public int hens(int n) {
        trouble = !hasKitchen() ? NO_SUCH : n < 1 || n > 1000000 ? BAD_NUMBER : FINE;
        if (trouble != FINE) {
            return NONE;
        }
        int pulls = 0;
        while (pulls < 20 && 1 << pulls < n) {
            pulls++;
        }
        return pulls;
    }

    public long thumbs(int p, boolean lower) {
        trouble = !isPerson(p) ? NO_SUCH : told.people[p].chance == NONE ? NOTHING : FINE;
        if (trouble != FINE) {
            return NONE;
        }
        Person one = told.people[p];
        long pressed = one.chance * likelihood(one.thumbed, one);
        long honest = (100 - one.chance) * likelihood(one.fair, one);
        return part(pressed, pressed + honest, lower);
    }

    // ---- wishes, knobs

    public int let(int p, int q) {
        trouble = areUnlike(p, q) ? FINE : NO_SUCH;
        if (trouble != FINE) {
            return NONE;
        }
        int lesser = Math.min(p, q);
        int greater = Math.max(p, q);
        return told.people[greater].worth > told.people[lesser].worth ? greater : lesser;
    }

    public int worth(int p) {
        trouble = isPerson(p) ? FINE : NO_SUCH;
        return trouble == FINE ? told.people[p].worth : NONE;
    }

    public int knob(int piece) {
        trouble = isPiece(piece) ? FINE : NO_SUCH;
        return trouble == FINE ? searchKnob(piece, false) : NONE;
    }

    public int owners(int piece) {
        trouble = isPiece(piece) ? FINE : NO_SUCH;
        return trouble == FINE ? searchKnob(piece, true) : NONE;
    }

    // ---- years

    public int wins(int p, int seed, int n) {
        trouble = isPerson(p) ? yearTrouble(seed, n) : NO_SUCH;
        if (trouble != FINE) {
            return NONE;
        }
        runYear(seed, n);
        return year[p];
    }

    public int spoilt(int seed, int n, boolean bends) {
        trouble = hasKitchen() ? yearTrouble(seed, n) : NO_SUCH;
        if (trouble != FINE) {
            return NONE;
        }
        runYear(seed, n);
        return bends ? year[MOST_PEOPLE + 1] : year[MOST_PEOPLE];
    }

    // ---- acts

    public boolean dry(int days) {
        trouble = !hasKitchen() ? NO_SUCH : days < 1 || days > MOST_DAYS ? BAD_NUMBER : FINE;
        if (trouble != FINE) {
            return false;
        }
        history.keep(now);
        for (int b = 0; b < told.boneCount; b++) {
            if (!now.gone[b]) {
                now.days[b] = Math.min(MOST_DAYS, now.days[b] + days);
            }
        }
        return true;
    }

    public boolean boil(int b) {
        trouble = !isBone(b) ? NO_SUCH : now.gone[b] || now.kinds[b] == BOILED ? NOT_SO : FINE;
        if (trouble != FINE) {
            return false;
        }
        history.keep(now);
        now.kinds[b] = BOILED;
        return true;
    }

    public int pull(int b, int p, int hp, int q, int hq, int moves) {
        trouble = pullTrouble(b, p, hp, q, hq, moves);
        if (trouble == FINE && (told.bones[b].kind == GOOSE || now.gone[b])) {
            trouble = NOT_SO;
        }
        if (trouble != FINE) {
            return NONE;
        }
        history.keep(now);
        lay(b, p, hp, q, hq, moves);
        int came = pulling.resolve(now.drawFlaw(told.flaw, told.bones[b].allPlaces()));
        now.gone[b] = came != BENDS;
        if (came == LEFT_WINS) {
            now.won[p]++;
        } else if (came == RIGHT_WINS) {
            now.won[q]++;
        }
        return came;
    }

    public boolean seed(int v) {
        trouble = !hasKitchen() ? NO_SUCH : isSeed(v) ? FINE : BAD_NUMBER;
        if (trouble != FINE) {
            return false;
        }
        now.seed = v;
        return true;
    }

    public boolean undo() {
        trouble = history.kept > 0 ? FINE : NOTHING;
        if (trouble != FINE) {
            return false;
        }
        history.takeBack(now);
        return true;
    }

    public int mark() {
        trouble = !hasKitchen() ? NO_SUCH : history.hasRoomForMark() ? FINE : NO_ROOM;
        return trouble == FINE ? history.setMark(now) : NONE;
    }

    public boolean back(int mark) {
        trouble = mark >= 0 && mark < history.marked ? FINE : NO_SUCH;
        if (trouble != FINE) {
            return false;
        }
        history.goTo(mark, now);
        return true;
    }

    // ---- what is told

    public int led(int i) throws NoSuchElementException {
        int met = 0;
        for (int b = 0; b < told.boneCount; b++) {
            if (!now.gone[b]) {
                if (met == i) {
                    return b;
                }
                met++;
            }
        }
        throw new NoSuchElementException("no such bone");
    }

    public int size(int what) {
        switch (what) {
            case 0:
                return told.bends;
            case 1:
                return told.tough;
            case 2:
                return told.jerk;
            case 3:
                return told.thumb;
            case 4:
                return told.flaw;
            case 5:
                return told.boneCount;
            case 6:
                return told.peopleCount;
            case 7:
                return told.forCount;
            case 8:
                return told.wonCount;
            case 9:
                return told.pieceCount;
            case 10:
                return now.seed;
            case 11:
                return history.kept;
            case 12:
                return history.marked;
            case 13:
                return reader.tape.length;
            default:
                return NONE;
        }
    }

    public int trouble() {
        return trouble;
    }

    // ---- what may be asked

    private int refuse(int number) {
        trouble = number;
        return NONE;
    }

    /** A KITCHEN has a bone at least. */
    private boolean hasKitchen() {
        return told.boneCount > 0;
    }

    private boolean isBone(int b) {
        return b >= 0 && b < told.boneCount;
    }

    private boolean isPerson(int p) {
        return p >= 0 && p < told.peopleCount;
    }

    private boolean areUnlike(int p, int q) {
        return isPerson(p) && isPerson(q) && p != q;
    }

    private boolean isPlace(int b, int arm, int place) {
        return isBone(b) && (arm == LEFT || arm == RIGHT)
                && place >= 0 && place < told.bones[b].places[arm];
    }

    private boolean isHold(int b, int arm, int hold) {
        return hold >= 1 && hold <= told.bones[b].places[arm];
    }

    private boolean isPiece(int piece) {
        return piece >= 0 && piece < told.pieceCount;
    }

    private static boolean isSeed(int v) {
        return v >= 0 && v <= MOST_SEED;
    }

    private int pairTrouble(int b, int p, int q) {
        return isBone(b) && areUnlike(p, q) ? FINE : NO_SUCH;
    }

    private int pullTrouble(int b, int p, int hp, int q, int hq, int moves) {
        if (pairTrouble(b, p, q) != FINE) {
            return NO_SUCH;
        }
        boolean sound = isHold(b, LEFT, hp) && isHold(b, RIGHT, hq) && moves >= 0 && moves <= BOTH_MOVE;
        return sound ? FINE : BAD_NUMBER;
    }

    private int weeksTrouble(int w) {
        if (!hasKitchen()) {
            return NO_SUCH;
        }
        return w >= 1 && w <= MOST_WEEKS ? FINE : BAD_NUMBER;
    }

    private static int yearTrouble(int seed, int n) {
        return isSeed(seed) && n >= 0 && n <= MOST_SUNDAYS ? FINE : BAD_NUMBER;
    }

    // ---- pulls of the bones as they are NOW

    private void takeNow(int b) {
        pulling.take(told, now.kinds[b], now.days[b]);
    }

    private void lay(int b, int p, int hp, int q, int hq, int moves) {
        takeNow(b);
        grips(b, p, hp, q, hq, moves);
    }

    private void grips(int b, int p, int hp, int q, int hq, int moves) {
        Bone bone = told.bones[b];
        Person first = told.people[p];
        Person second = told.people[q];
        pulling.pair(first, second);
        pulling.grip(pulling.left, bone, LEFT, first, hp, moves == LEFT || moves == BOTH_MOVE);
        pulling.grip(pulling.right, bone, RIGHT, second, hq, moves == RIGHT || moves == BOTH_MOVE);
    }

    /** Told holds, nobody moves but children. */
    private void gripsAsTold(int b, int p, int q) {
        Bone bone = told.bones[b];
        int hp = bone.reach(LEFT, told.people[p]);
        int hq = bone.reach(RIGHT, told.people[q]);
        grips(b, p, hp, q, hq, NOBODY_MOVES);
    }

    private void playNow(int b, int p, int q) {
        takeNow(b);
        game.play(pulling, told.bones[b], told.people[p], told.people[q]);
    }

    private int leftOddsDried(int b, int p, int q, int days) {
        pulling.take(told, now.kinds[b], days);
        gripsAsTold(b, p, q);
        pulling.weighLaid();
        return pulling.weight[LEFT_WINS];
    }

    /** Twice p's ODDS, so that a lot needs no half; in parts of twice the whole. */
    private int twiceByLaw(int law, int b, int p, int q) {
        takeNow(b);
        gripsAsTold(b, q, p);
        pulling.weighLaid();
        int otherLeft = pulling.weight[LEFT_WINS];
        int firstRight = pulling.weight[RIGHT_WINS];
        gripsAsTold(b, p, q);
        pulling.weighLaid();
        int firstLeft = pulling.weight[LEFT_WINS];
        int otherRight = pulling.weight[RIGHT_WINS];
        switch (law) {
            case 0:
                return 2 * firstLeft;
            case 1:
                return 2 * (takesLeft(b, p, firstLeft, firstRight) ? firstLeft : firstRight);
            case 2:
                return 2 * (takesLeft(b, q, otherLeft, otherRight) ? firstRight : firstLeft);
            default:
                return firstLeft + firstRight;
        }
    }

    private boolean takesLeft(int b, int chooser, int oddsLeft, int oddsRight) {
        if (told.people[chooser].kind == COOK) {
            return told.bones[b].thicknessOf(LEFT) >= told.bones[b].thicknessOf(RIGHT);
        }
        return oddsLeft >= oddsRight;
    }

    /** How many pulls would leave this piece; or, asked for owners, who had the knob in them. */
    private int searchKnob(int piece, boolean asOwners) {
        int wanted = 10 * told.pieceArm[piece] + told.piecePlace[piece];
        int count = 0;
        int bits = 0;
        for (int b = 0; b < told.boneCount; b++) {
            takeNow(b);
            for (int p = 0; p < told.peopleCount; p++) {
                for (int q = 0; q < told.peopleCount; q++) {
                    if (p != q && breaksAsTold(b, p, q) == wanted) {
                        count++;
                        bits |= 1 << (told.pieceArm[piece] == LEFT ? q : p);
                    }
                }
            }
        }
        return asOwners ? bits : count;
    }

    private int breaksAsTold(int b, int p, int q) {
        gripsAsTold(b, p, q);
        return pulling.breakPlace();
    }

    // ---- chances

    /** The part up of low in lowest terms: its upper WHOLE or its lower. */
    private static long part(long up, long low, boolean lower) {
        long a = up;
        long b = low;
        for (int i = 0; i < 100 && b > 0; i++) {
            long left = a % b;
            a = b;
            b = left;
        }
        if (a <= 0) {
            return lower ? 1 : 0;
        }
        return lower ? low / a : up / a;
    }

    /** Of all 2 to the power of pulls ways, in how many at least so many are won. */
    private static long waysToWin(int pulls, int won) {
        long ways = 1;
        long sum = 0;
        for (int i = 0; i <= pulls; i++) {
            if (i >= won) {
                sum += ways;
            }
            ways = ways * (pulls - i) / (i + 1);
        }
        return sum;
    }

    /** How likely his told pulls are if he wins so many tenths; in parts of a power of ten. */
    private static long likelihood(int tenths, Person one) {
        long product = 1;
        for (int i = 0; i < one.won; i++) {
            product *= tenths;
        }
        for (int i = 0; i < one.lost; i++) {
            product *= 10 - tenths;
        }
        return product;
    }

    // ---- years

    private void runYear(int seed, int n) {
        for (int i = 0; i < year.length; i++) {
            year[i] = 0;
        }
        int kept = now.seed;
        now.seed = seed;
        for (int i = 0; i < n; i++) {
            runSunday();
        }
        now.seed = kept;
    }

    private void runSunday() {
        int b = now.draw(told.boneCount);
        int p = now.draw(told.peopleCount);
        int q = now.draw(told.peopleCount - 1);
        if (q >= p) {
            q++;
        }
        takeNow(b);
        gripsAsTold(b, p, q);
        int came = pulling.resolve(now.drawFlaw(told.flaw, told.bones[b].allPlaces()));
        if (came == LEFT_WINS) {
            year[p]++;
        } else if (came == RIGHT_WINS) {
            year[q]++;
        } else if (came == THREE) {
            year[MOST_PEOPLE]++;
        } else {
            year[MOST_PEOPLE + 1]++;
        }
    }

    /** THE TAPE, and the TOKEN at which its reading stands. */
    private static final class Tape {
        static final int END = 0;
        static final int BAD = 1;
        static final int WORD = 2;
        static final int WHOLE = 3;
        static final int SEMICOLON = 4;
        static final int COMMA = 5;

        private static final int LONGEST_WORD = 8;
        private static final int LONGEST_WHOLE = 2;

        private final byte[] bytes = new byte[1000];
        int length;
        int kind;
        int at;
        int value;
        /** The letters of a WORD as one number, so that names are kept and compared without texts. */
        long letters;
        private int behind;
        private int end;

        boolean hasRoom(int more) {
            return length + more <= bytes.length;
        }

        void add(int four) {
            if (hasRoom(4)) {
                for (int shift = 24; shift >= 0; shift -= 8) {
                    bytes[length] = (byte) (four >>> shift);
                    length++;
                }
            }
        }

        void open(int n) {
            end = Math.max(0, Math.min(n, length));
            behind = 0;
            next();
        }

        void next() {
            at = behind;
            while (at < end && bytes[at] == ' ') {
                at++;
            }
            behind = at + 1;
            if (at >= end) {
                behind = end;
                kind = END;
            } else if (bytes[at] >= 'a' && bytes[at] <= 'z') {
                takeWord();
            } else if (bytes[at] >= '0' && bytes[at] <= '9') {
                takeWhole();
            } else if (bytes[at] == ';') {
                kind = SEMICOLON;
            } else if (bytes[at] == ',') {
                kind = COMMA;
            } else {
                kind = BAD;
            }
        }

        private void takeWord() {
            letters = 0;
            int i = at;
            while (i < end && bytes[i] >= 'a' && bytes[i] <= 'z') {
                letters = 27 * letters + (bytes[i] - 'a' + 1);
                i++;
            }
            behind = i;
            kind = i - at <= LONGEST_WORD ? WORD : BAD;
        }

        private void takeWhole() {
            value = 0;
            int i = at;
            while (i < end && bytes[i] >= '0' && bytes[i] <= '9') {
                value = 10 * value + (bytes[i] - '0');
                i++;
            }
            behind = i;
            kind = i - at <= LONGEST_WHOLE ? WHOLE : BAD;
        }

        boolean reads(String word) {
            if (kind != WORD || behind - at != word.length()) {
                return false;
            }
            for (int i = 0; i < word.length(); i++) {
                if (bytes[at + i] != word.charAt(i)) {
                    return false;
                }
            }
            return true;
        }
    }

    /** Reads a KITCHEN from THE TAPE up to its first FAULT. */
    private static final class Reader {
        private static final int FORM = 1;
        private static final int UNTOLD = 2;
        private static final int AGAIN = 3;
        private static final int BOUNDS = 4;
        private static final int MANY = 5;
        private static final int LACKS = 6;

        final Tape tape = new Tape();
        Kitchen fresh = new Kitchen();
        int fault;
        int place;
        private boolean begun;
        private int found;

        boolean read(int n) {
            fresh.clear();
            fault = 0;
            place = NONE;
            begun = false;
            tape.open(n);
            // no LINE is without a TOKEN, so there are no more of them than bytes
            for (int lines = 0; lines <= n; lines++) {
                if (!readLine()) {
                    return false;
                }
                if (tape.kind == Tape.END) {
                    return fresh.boneCount >= 1 && fresh.peopleCount >= 2 || stop(LACKS);
                }
                if (tape.kind != Tape.SEMICOLON) {
                    return stop(FORM);
                }
                tape.next();
            }
            return stop(FORM);
        }

        private boolean stop(int number) {
            fault = number;
            place = tape.at;
            return false;
        }

        private boolean readLine() {
            if (tape.reads("kitchen")) {
                return begun ? stop(AGAIN) : readRules();
            }
            if (tape.reads("bone")) {
                return enter(fresh.boneCount, MOST_BONES) && readBone();
            }
            if (tape.reads("person")) {
                return enter(fresh.peopleCount, MOST_PEOPLE) && readPerson();
            }
            if (tape.reads("for")) {
                return enter(fresh.forCount, Kitchen.MOST_FORS) && readFor();
            }
            if (tape.reads("won")) {
                return enter(fresh.wonCount, Kitchen.MOST_WON) && readWon();
            }
            if (tape.reads("piece")) {
                return enter(fresh.pieceCount, Kitchen.MOST_PIECES) && readPiece();
            }
            if (tape.reads("cheats")) {
                // once for each: no number of its own
                return enter(0, 1) && readCheats();
            }
            return stop(FORM);
        }

        /** Goes behind the first WORD of a LINE, if such a LINE may stand there. */
        private boolean enter(int told, int most) {
            if (!begun) {
                return stop(LACKS);
            }
            if (told >= most) {
                return stop(MANY);
            }
            tape.next();
            return true;
        }

        private boolean readRules() {
            begun = true;
            tape.next();
            if (!readWhole("bends", 0, 9)) {
                return false;
            }
            fresh.bends = found;
            if (!readWhole("tough", 25, 60)) {
                return false;
            }
            fresh.tough = found;
            if (!readWhole("jerk", 0, 99)) {
                return false;
            }
            fresh.jerk = found;
            if (!readWhole("thumb", 0, 99)) {
                return false;
            }
            fresh.thumb = found;
            if (!readWhole("flaw", 0, 99)) {
                return false;
            }
            fresh.flaw = found;
            return true;
        }

        private boolean readBone() {
            Bone bone = fresh.bones[fresh.boneCount];
            if (!isNewName()) {
                return false;
            }
            bone.name = tape.letters;
            tape.next();
            if (!readKind("hen", "goose", "boiled", "")) {
                return false;
            }
            bone.kind = found;
            if (!readWhole("dry", 0, MOST_DAYS)) {
                return false;
            }
            bone.days = found;
            if (!readWord("left") || !readArm(bone, LEFT)) {
                return false;
            }
            if (bone.places[LEFT] < 2 && tape.reads("right")) {
                return stop(LACKS);
            }
            if (!readWord("right") || !readArm(bone, RIGHT)) {
                return false;
            }
            if (bone.places[RIGHT] < 2 && (tape.kind == Tape.SEMICOLON || tape.kind == Tape.END)) {
                return stop(LACKS);
            }
            fresh.boneCount++;
            return true;
        }

        private boolean readArm(Bone bone, int arm) {
            for (int i = 0; i <= MOST_PLACES; i++) {
                if (!isWhole(1, 9)) {
                    return false;
                }
                if (i >= MOST_PLACES) {
                    return stop(MANY);
                }
                bone.setThick(arm, i, found);
                tape.next();
                if (tape.kind != Tape.COMMA) {
                    return true;
                }
                tape.next();
            }
            return false;
        }

        private boolean readPerson() {
            Person one = fresh.people[fresh.peopleCount];
            if (!isNewName()) {
                return false;
            }
            one.begin(tape.letters);
            tape.next();
            if (!readKind("plain", "cook", "child", "cheat")) {
                return false;
            }
            one.kind = found;
            if (!readWhole("force", 1, 40)) {
                return false;
            }
            one.force = found;
            if (!readWhole("hold", 1, MOST_PLACES)) {
                return false;
            }
            one.hold = found;
            if (!readWhole("wish", 0, 99)) {
                return false;
            }
            one.wish = found;
            one.worth = found;
            fresh.peopleCount++;
            return true;
        }

        private boolean readFor() {
            if (!isPersonTold(NONE)) {
                return false;
            }
            int by = found;
            tape.next();
            if (!isPersonTold(by)) {
                return false;
            }
            Person one = fresh.people[by];
            int bit = 1 << found;
            if ((one.wishesFor & bit) != 0) {
                return stop(AGAIN);
            }
            tape.next();
            if (!isWhole(0, 99)) {
                return false;
            }
            tape.next();
            one.wishesFor |= bit;
            one.worth += found;
            fresh.forCount++;
            return true;
        }

        private boolean readWon() {
            if (!isPersonTold(NONE)) {
                return false;
            }
            int winner = found;
            tape.next();
            if (!isPersonTold(winner)) {
                return false;
            }
            int loser = found;
            tape.next();
            if (!readKind("left", "right", "", "")) {
                return false;
            }
            fresh.people[winner].won++;
            fresh.people[loser].lost++;
            fresh.leftWon += found == LEFT ? 1 : 0;
            fresh.wonCount++;
            return true;
        }

        private boolean readPiece() {
            if (!readKind("left", "right", "", "")) {
                return false;
            }
            fresh.pieceArm[fresh.pieceCount] = found;
            if (!isWhole(0, MOST_PLACES - 1)) {
                return false;
            }
            tape.next();
            fresh.piecePlace[fresh.pieceCount] = found;
            fresh.pieceCount++;
            return true;
        }

        private boolean readCheats() {
            if (!isPersonTold(NONE)) {
                return false;
            }
            Person one = fresh.people[found];
            if (one.chance != NONE) {
                return stop(AGAIN);
            }
            tape.next();
            if (!isWhole(0, 99)) {
                return false;
            }
            one.chance = found;
            tape.next();
            if (!readWhole("thumb", 1, 9)) {
                return false;
            }
            one.thumbed = found;
            if (!readWhole("fair", 1, 9)) {
                return false;
            }
            one.fair = found;
            return true;
        }

        private boolean readWord(String word) {
            if (!tape.reads(word)) {
                return stop(FORM);
            }
            tape.next();
            return true;
        }

        private boolean readWhole(String word, int least, int most) {
            if (!readWord(word) || !isWhole(least, most)) {
                return false;
            }
            tape.next();
            return true;
        }

        /** Finds which of these the WORD is; an empty one is none. */
        private boolean readKind(String a, String b, String c, String d) {
            if (tape.reads(a)) {
                found = 0;
            } else if (tape.reads(b)) {
                found = 1;
            } else if (tape.reads(c)) {
                found = 2;
            } else if (tape.reads(d)) {
                found = 3;
            } else {
                return stop(FORM);
            }
            tape.next();
            return true;
        }

        private boolean isWhole(int least, int most) {
            if (tape.kind != Tape.WHOLE) {
                return stop(FORM);
            }
            found = tape.value;
            return found >= least && found <= most || stop(BOUNDS);
        }

        private boolean isName() {
            if (tape.kind != Tape.WORD) {
                return false;
            }
            boolean kept = tape.reads("kitchen") || tape.reads("bone") || tape.reads("person")
                    || tape.reads("for") || tape.reads("won") || tape.reads("piece")
                    || tape.reads("cheats") || tape.reads("left") || tape.reads("right");
            return !kept;
        }

        private boolean isNewName() {
            if (!isName()) {
                return stop(FORM);
            }
            boolean told = fresh.findBone(tape.letters) != NONE || fresh.findPerson(tape.letters) != NONE;
            return !told || stop(AGAIN);
        }

        /** Finds the PERSON of this NAME, who must be unlike the other one (NONE: whoever it is). */
        private boolean isPersonTold(int other) {
            if (!isName()) {
                return stop(FORM);
            }
            found = fresh.findPerson(tape.letters);
            if (found == NONE) {
                return stop(UNTOLD);
            }
            return found != other || stop(AGAIN);
        }
    }

    /** A KITCHEN as told. */
    private static final class Kitchen {
        static final int MOST_FORS = 10;
        static final int MOST_WON = 12;
        static final int MOST_PIECES = 4;

        int bends;
        int tough;
        int jerk;
        int thumb;
        int flaw;
        int boneCount;
        final Bone[] bones = new Bone[MOST_BONES];
        int peopleCount;
        final Person[] people = new Person[MOST_PEOPLE];
        int forCount;
        int wonCount;
        int leftWon;
        int pieceCount;
        final int[] pieceArm = new int[MOST_PIECES];
        final int[] piecePlace = new int[MOST_PIECES];

        Kitchen() {
            for (int b = 0; b < MOST_BONES; b++) {
                bones[b] = new Bone();
            }
            for (int p = 0; p < MOST_PEOPLE; p++) {
                people[p] = new Person();
            }
        }

        void clear() {
            boneCount = 0;
            peopleCount = 0;
            forCount = 0;
            wonCount = 0;
            leftWon = 0;
            pieceCount = 0;
        }

        int findBone(long name) {
            for (int b = 0; b < boneCount; b++) {
                if (bones[b].name == name) {
                    return b;
                }
            }
            return NONE;
        }

        int findPerson(long name) {
            for (int p = 0; p < peopleCount; p++) {
                if (people[p].name == name) {
                    return p;
                }
            }
            return NONE;
        }
    }

    /** A bone as told. */
    private static final class Bone {
        long name;
        int kind;
        int days;
        final int[] places = new int[2];
        final int[] thickness = new int[2 * MOST_PLACES];

        void setThick(int arm, int place, int thick) {
            thickness[MOST_PLACES * arm + place] = thick;
            places[arm] = place + 1;
        }

        int thickAt(int arm, int place) {
            return thickness[MOST_PLACES * arm + place];
        }

        int allPlaces() {
            return places[LEFT] + places[RIGHT];
        }

        int thicknessOf(int arm) {
            int sum = 0;
            for (int place = 0; place < places[arm]; place++) {
                sum += thickAt(arm, place);
            }
            return sum;
        }

        /** One's told hold, as far as the arm goes. */
        int reach(int arm, Person who) {
            return Math.min(who.hold, places[arm]);
        }
    }

    /** A person as told. */
    private static final class Person {
        long name;
        int kind;
        int force;
        int hold;
        int wish;
        /** What he wishes and what is told for others by him. */
        int worth;
        /** For whom that is told, as bits. */
        int wishesFor;
        int won;
        int lost;
        /** How likely he cheats, in a hundred; NONE if that isn't told. */
        int chance = NONE;
        int thumbed;
        int fair;

        void begin(long called) {
            name = called;
            worth = 0;
            wishesFor = 0;
            won = 0;
            lost = 0;
            chance = NONE;
        }
    }

    /** What ACTS change. */
    private static final class State {
        final int[] kinds = new int[MOST_BONES];
        final int[] days = new int[MOST_BONES];
        final boolean[] gone = new boolean[MOST_BONES];
        final int[] won = new int[MOST_PEOPLE];
        int seed;

        void begin(Kitchen told) {
            for (int b = 0; b < MOST_BONES; b++) {
                kinds[b] = told.bones[b].kind;
                days[b] = told.bones[b].days;
                gone[b] = false;
            }
            for (int p = 0; p < MOST_PEOPLE; p++) {
                won[p] = 0;
            }
            seed = 0;
        }

        void become(State other) {
            for (int b = 0; b < MOST_BONES; b++) {
                kinds[b] = other.kinds[b];
                days[b] = other.days[b];
                gone[b] = other.gone[b];
            }
            for (int p = 0; p < MOST_PEOPLE; p++) {
                won[p] = other.won[p];
            }
            seed = other.seed;
        }

        int draw(int mod) {
            seed = (75 * seed + 74) % (MOST_SEED + 1);
            return mod > 0 ? seed % mod : 0;
        }

        /** Which of all places has a FLAW, the left arm's first; NONE if none has. */
        int drawFlaw(int flaw, int places) {
            return draw(100) < flaw ? draw(places) : NONE;
        }
    }

    /** The states ahead of the latest ACTS, and those that were marked. */
    private static final class History {
        private static final int MOST_KEPT = 16;
        private static final int MOST_MARKS = 3;

        private final State[] ring = new State[MOST_KEPT];
        private final State[] marks = new State[MOST_MARKS];
        private int next;
        int kept;
        int marked;

        History() {
            for (int i = 0; i < MOST_KEPT; i++) {
                ring[i] = new State();
            }
            for (int i = 0; i < MOST_MARKS; i++) {
                marks[i] = new State();
            }
        }

        void clear() {
            kept = 0;
            marked = 0;
        }

        void keep(State now) {
            ring[next].become(now);
            next = (next + 1) % MOST_KEPT;
            kept = Math.min(MOST_KEPT, kept + 1);
        }

        void takeBack(State now) {
            next = (next + MOST_KEPT - 1) % MOST_KEPT;
            kept--;
            now.become(ring[next]);
        }

        boolean hasRoomForMark() {
            return marked < MOST_MARKS;
        }

        int setMark(State now) {
            marks[marked].become(now);
            marked++;
            return marked - 1;
        }

        void goTo(int mark, State now) {
            now.become(marks[mark]);
            kept = 0;
        }
    }

    /** An arm as somebody holds it, and where it gives way: row 0 without a FLAW, row f + 1 with one in place f. */
    private static final class Arm {
        int places;
        final int[] strain = new int[MOST_PLACES];
        final int[] strength = new int[MOST_PLACES];
        /** The place that gives way, NONE if none does, with its STRAIN and STRENGTH. */
        final int[] worst = new int[MOST_PLACES + 1];
        final int[] load = new int[MOST_PLACES + 1];
        final int[] limit = new int[MOST_PLACES + 1];

        void setPlaces(Bone bone, int arm, int toughness, int thumb) {
            places = bone.places[arm];
            for (int i = 0; i < places; i++) {
                strength[i] = bone.thickness[MOST_PLACES * arm + i] * toughness + (i < 2 ? thumb : 0);
            }
        }

        void setStrain(int force, int hold, int jerk) {
            for (int i = 0; i < places; i++) {
                strain[i] = i < hold ? force * (hold - i) + jerk : 0;
            }
        }

        void findWorst(int row) {
            worst[row] = NONE;
            load[row] = 0;
            limit[row] = 1;
            for (int i = 0; i < places; i++) {
                int bears = i + 1 == row ? strength[i] / 2 : strength[i];
                // crosswise, so that a place without any STRENGTH comes ahead of all others; every load is above 0
                if (strain[i] > bears
                        && (worst[row] == NONE || strain[i] * limit[row] > load[row] * bears)) {
                    worst[row] = i;
                    load[row] = strain[i];
                    limit[row] = bears;
                }
            }
        }

        void findAll() {
            for (int row = 0; row <= places; row++) {
                findWorst(row);
            }
        }
    }

    /** A PULL of one bone by two people. */
    private static final class Pull {
        final Arm left = new Arm();
        final Arm right = new Arm();
        /** ODDS of what comes, in parts of the whole. */
        final int[] weight = new int[4];
        int whole = 1;
        private boolean limp;
        private int toughness;
        private int jerk;
        private int thumb;
        private int flaw;
        private int force;

        void take(Kitchen told, int kind, int days) {
            limp = kind == BOILED || days < told.bends;
            toughness = told.tough - days;
            jerk = told.jerk;
            thumb = told.thumb;
            flaw = told.flaw;
        }

        void pair(Person first, Person second) {
            force = first.force + second.force;
        }

        void grip(Arm arm, Bone bone, int which, Person who, int hold, boolean moves) {
            arm.setPlaces(bone, which, toughness, who.kind == CHEAT ? thumb : 0);
            arm.setStrain(force, hold, moves || who.kind == CHILD ? jerk : 0);
        }

        /** What comes with a FLAW in one of all places, the left arm's first (NONE: without one). */
        int resolve(int flawPlace) {
            int leftRow = flawPlace < left.places ? flawPlace + 1 : 0;
            int rightRow = flawPlace < left.places ? 0 : flawPlace - left.places + 1;
            left.findWorst(leftRow);
            right.findWorst(rightRow);
            return compare(left, leftRow, right, rightRow);
        }

        /** Without a FLAW: ten times the arm and the place. */
        int breakPlace() {
            int came = resolve(NONE);
            if (came == LEFT_WINS) {
                return 10 * RIGHT + right.worst[0];
            }
            return came == RIGHT_WINS ? 10 * LEFT + left.worst[0] : NOWHERE;
        }

        private int compare(Arm first, int firstRow, Arm second, int secondRow) {
            boolean firstHolds = first.worst[firstRow] == NONE;
            boolean secondHolds = second.worst[secondRow] == NONE;
            if (limp || firstHolds && secondHolds) {
                return BENDS;
            }
            if (firstHolds || secondHolds) {
                return firstHolds ? LEFT_WINS : RIGHT_WINS;
            }
            int firstLoad = first.load[firstRow] * second.limit[secondRow];
            int secondLoad = second.load[secondRow] * first.limit[firstRow];
            if (firstLoad == secondLoad) {
                return THREE;
            }
            return firstLoad > secondLoad ? RIGHT_WINS : LEFT_WINS;
        }

        void weighLaid() {
            left.findAll();
            right.findAll();
            weigh(left, right);
        }

        /** ODDS of two arms in which all rows are found. */
        void weigh(Arm first, Arm second) {
            int places = first.places + second.places;
            whole = 100 * places;
            for (int i = 0; i < weight.length; i++) {
                weight[i] = 0;
            }
            weight[compare(first, 0, second, 0)] += (100 - flaw) * places;
            for (int row = 1; row <= first.places; row++) {
                weight[compare(first, row, second, 0)] += flaw;
            }
            for (int row = 1; row <= second.places; row++) {
                weight[compare(first, 0, second, row)] += flaw;
            }
        }
    }

    /** All choices of two people, each a hold and whether one moves, and their ODDS. */
    private static final class Game {
        private static final int MOST_CHOICES = 2 * MOST_PLACES;

        private final Arm[] lefts = new Arm[MOST_CHOICES];
        private final Arm[] rights = new Arm[MOST_CHOICES];
        /** Ten times the hold, and 1 if he moves. */
        private final int[] leftCodes = new int[MOST_CHOICES];
        private final int[] rightCodes = new int[MOST_CHOICES];
        private final int[][] leftOdds = new int[MOST_CHOICES][MOST_CHOICES];
        private final int[][] rightOdds = new int[MOST_CHOICES][MOST_CHOICES];
        /** The left one's greatest ODDS against each choice of the right one, and the other way round. */
        private final int[] leftBest = new int[MOST_CHOICES];
        private final int[] rightBest = new int[MOST_CHOICES];
        private int leftCount;
        private int rightCount;

        Game() {
            for (int i = 0; i < MOST_CHOICES; i++) {
                lefts[i] = new Arm();
                rights[i] = new Arm();
            }
        }

        private static int choose(Pull pulling, Bone bone, int which, Person who, Arm[] arms, int[] codes) {
            int count = 0;
            for (int hold = 1; hold <= bone.places[which]; hold++) {
                for (int moves = who.kind == CHILD ? 1 : 0; moves <= 1; moves++) {
                    pulling.grip(arms[count], bone, which, who, hold, moves == 1);
                    arms[count].findAll();
                    codes[count] = 10 * hold + moves;
                    count++;
                }
            }
            return count;
        }

        /** BEST of the left one against the right arm as the other one has it. */
        int bestAgainst(Pull pulling, Bone bone, Person who) {
            leftCount = choose(pulling, bone, LEFT, who, lefts, leftCodes);
            pulling.right.findAll();
            int best = 0;
            int greatest = NONE;
            for (int i = 0; i < leftCount; i++) {
                pulling.weigh(lefts[i], pulling.right);
                if (pulling.weight[LEFT_WINS] > greatest) {
                    greatest = pulling.weight[LEFT_WINS];
                    best = leftCodes[i];
                }
            }
            return best;
        }

        void play(Pull pulling, Bone bone, Person first, Person second) {
            pulling.pair(first, second);
            leftCount = choose(pulling, bone, LEFT, first, lefts, leftCodes);
            rightCount = choose(pulling, bone, RIGHT, second, rights, rightCodes);
            for (int i = 0; i < MOST_CHOICES; i++) {
                leftBest[i] = 0;
                rightBest[i] = 0;
            }
            for (int i = 0; i < leftCount; i++) {
                for (int j = 0; j < rightCount; j++) {
                    pulling.weigh(lefts[i], rights[j]);
                    leftOdds[i][j] = pulling.weight[LEFT_WINS];
                    rightOdds[i][j] = pulling.weight[RIGHT_WINS];
                    leftBest[j] = Math.max(leftBest[j], leftOdds[i][j]);
                    rightBest[i] = Math.max(rightBest[i], rightOdds[i][j]);
                }
            }
        }

        private boolean isRest(int i, int j) {
            return leftOdds[i][j] == leftBest[j] && rightOdds[i][j] == rightBest[i];
        }

        int countRests() {
            int count = 0;
            for (int i = 0; i < leftCount; i++) {
                for (int j = 0; j < rightCount; j++) {
                    if (isRest(i, j)) {
                        count++;
                    }
                }
            }
            return count;
        }

        int firstRest() {
            for (int i = 0; i < leftCount; i++) {
                for (int j = 0; j < rightCount; j++) {
                    if (isRest(i, j)) {
                        return 100 * leftCodes[i] + rightCodes[j];
                    }
                }
            }
            return NOWHERE;
        }

        int surest() {
            int surest = 0;
            for (int i = 0; i < leftCount; i++) {
                int least = ABOVE_ALL;
                for (int j = 0; j < rightCount; j++) {
                    least = Math.min(least, leftOdds[i][j]);
                }
                surest = Math.max(surest, least);
            }
            return surest;
        }
    }

    /** TURNS, searched pair by pair. */
    private static final class Turns {
        /** Ten times the lesser number and the greater, by weeks. */
        final int[] pairs = new int[MOST_WEEKS];
        private final int[] had = new int[MOST_PEOPLE];
        private int people;
        private int weeks;

        boolean find(int howMany, int howLong) {
            people = Math.min(howMany, MOST_PEOPLE);
            weeks = Math.min(howLong, MOST_WEEKS);
            for (int p = 0; p < had.length; p++) {
                had[p] = 0;
            }
            return people >= 2 && findFrom(0);
        }

        private boolean findFrom(int week) {
            if (week >= weeks) {
                return isEven();
            }
            for (int p = 0; p < people; p++) {
                for (int q = p + 1; q < people; q++) {
                    if (mayPull(p, week) && mayPull(q, week)) {
                        pairs[week] = 10 * p + q;
                        had[p]++;
                        had[q]++;
                        if (findFrom(week + 1)) {
                            return true;
                        }
                        had[p]--;
                        had[q]--;
                    }
                }
            }
            return false;
        }

        /** Nobody may have more turns than the most that can be even at the end. */
        private boolean mayPull(int p, int week) {
            if (had[p] * people >= 2 * weeks) {
                return false;
            }
            return week == 0 || pairs[week - 1] / 10 != p && pairs[week - 1] % 10 != p;
        }

        private boolean isEven() {
            int least = ABOVE_ALL;
            int most = 0;
            for (int p = 0; p < people; p++) {
                least = Math.min(least, had[p]);
                most = Math.max(most, had[p]);
            }
            return most - least <= 1;
        }
    }
}
