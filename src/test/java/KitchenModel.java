import java.math.BigInteger;
import java.util.ArrayDeque;
import java.util.ArrayList;
import java.util.Arrays;
import java.util.Deque;
import java.util.List;

/** The document's answers about a KITCHEN, worked out slowly and straight from its words, with exact fractions. */
final class KitchenModel {
    /** A fraction in lowest terms. */
    record Part(BigInteger up, BigInteger low) implements Comparable<Part> {
        static Part of(BigInteger up, BigInteger low) {
            BigInteger d = up.gcd(low);
            return new Part(up.divide(d), low.divide(d));
        }

        static Part of(long up, long low) {
            return of(BigInteger.valueOf(up), BigInteger.valueOf(low));
        }

        Part plus(Part o) {
            return of(up.multiply(o.low).add(o.up.multiply(low)), low.multiply(o.low));
        }

        Part times(Part o) {
            return of(up.multiply(o.up), low.multiply(o.low));
        }

        Part offHalf() {
            Part d = plus(of(-1, 2));
            return d.up.signum() < 0 ? of(d.up.negate(), d.low) : d;
        }

        long asked(boolean lower) {
            return (lower ? low : up).longValueExact();
        }

        @Override
        public int compareTo(Part o) {
            return up.multiply(o.low).compareTo(o.up.multiply(low));
        }
    }

    record Bone(int kind, int days, int[] left, int[] right) {
        int[] arm(int arm) {
            return arm == 0 ? left : right;
        }

        int places() {
            return left.length + right.length;
        }
    }

    record Person(String name, int kind, int force, int hold, int wish) {
    }

    record Won(int winner, int loser, int side) {
    }

    record Now(int[] kinds, int[] days, boolean[] gone, int[] wins, int seed) {
        Now copy() {
            return new Now(kinds.clone(), days.clone(), gone.clone(), wins.clone(), seed);
        }
    }

    int[] rules = new int[5];
    final List<Bone> bones = new ArrayList<>();
    final List<Person> people = new ArrayList<>();
    final List<int[]> fors = new ArrayList<>();
    final List<Won> won = new ArrayList<>();
    final List<int[]> pieces = new ArrayList<>();
    final int[][] cheats = new int[6][];
    Now now;
    final Deque<Now> undo = new ArrayDeque<>();
    final List<Now> marks = new ArrayList<>();

    KitchenModel(List<String> tokens) {
        List<String> line = new ArrayList<>();
        for (String token : tokens) {
            if (token.equals(";")) {
                tell(line);
                line.clear();
            } else {
                line.add(token);
            }
        }
        tell(line);
        now = new Now(bones.stream().mapToInt(Bone::kind).toArray(), bones.stream().mapToInt(Bone::days).toArray(),
                new boolean[bones.size()], new int[people.size()], 0);
    }

    private static int whole(String token) {
        return Integer.parseInt(token);
    }

    private int named(String name) {
        for (int p = 0; p < people.size(); p++) {
            if (people.get(p).name().equals(name)) {
                return p;
            }
        }
        throw new IllegalStateException(name);
    }

    private static int side(String word) {
        return word.equals("left") ? 0 : 1;
    }

    private void tell(List<String> t) {
        switch (t.get(0)) {
            case "kitchen" -> rules = new int[] {whole(t.get(2)), whole(t.get(4)), whole(t.get(6)), whole(t.get(8)),
                whole(t.get(10))};
            case "bone" -> {
                int right = t.subList(5, t.size()).indexOf("right") + 5;
                bones.add(new Bone(List.of("hen", "goose", "boiled").indexOf(t.get(2)), whole(t.get(4)),
                        thick(t.subList(6, right)), thick(t.subList(right + 1, t.size()))));
            }
            case "person" -> people.add(new Person(t.get(1), List.of("plain", "cook", "child", "cheat").indexOf(t.get(2)),
                    whole(t.get(4)), whole(t.get(6)), whole(t.get(8))));
            case "for" -> fors.add(new int[] {named(t.get(1)), named(t.get(2)), whole(t.get(3))});
            case "won" -> won.add(new Won(named(t.get(1)), named(t.get(2)), side(t.get(3))));
            case "piece" -> pieces.add(new int[] {side(t.get(1)), whole(t.get(2))});
            default -> cheats[named(t.get(1))] = new int[] {whole(t.get(2)), whole(t.get(4)), whole(t.get(6))};
        }
    }

    private static int[] thick(List<String> t) {
        return t.stream().filter(s -> !s.equals(",")).mapToInt(Integer::parseInt).toArray();
    }

    // ---- a pull

    int strength(int b, int arm, int place, int p, int days) {
        int more = people.get(p).kind() == 3 && place < 2 ? rules[3] : 0;
        return bones.get(b).arm(arm)[place] * (rules[1] - days) + more;
    }

    int strain(int b, int arm, int place, int p, int hp, int q, int hq, int moves) {
        int who = arm == 0 ? p : q;
        int hold = arm == 0 ? hp : hq;
        if (place >= hold) {
            return 0;
        }
        boolean jerks = moves == 3 || moves == arm || people.get(who).kind() == 2;
        return (people.get(p).force() + people.get(q).force()) * (hold - place) + (jerks ? rules[2] : 0);
    }

    /** What comes, and 10 times where it breaks behind it; flaw: 10 times the arm and the place, -1 none. */
    int[] pulled(int b, int p, int hp, int q, int hq, int moves, int flaw, int days) {
        double greatest = -1;
        List<Integer> at = new ArrayList<>();
        for (int arm = 0; arm < 2; arm++) {
            for (int place = 0; place < bones.get(b).arm(arm).length; place++) {
                int bears = strength(b, arm, place, arm == 0 ? p : q, days);
                bears = flaw == 10 * arm + place ? bears / 2 : bears;
                int pull = strain(b, arm, place, p, hp, q, hq, moves);
                if (pull > bears) {
                    // of whole numbers below a thousand: unlike ratios are unlike doubles, like ones alike
                    double ratio = bears == 0 ? Double.POSITIVE_INFINITY : (double) pull / bears;
                    if (ratio > greatest) {
                        greatest = ratio;
                        at.clear();
                    }
                    if (ratio == greatest) {
                        at.add(10 * arm + place);
                    }
                }
            }
        }
        if (days < rules[0] || now.kinds()[b] == 2 || at.isEmpty()) {
            return new int[] {3, -2};
        }
        boolean left = at.stream().anyMatch(x -> x < 10);
        boolean right = at.stream().anyMatch(x -> x >= 10);
        if (left && right) {
            return new int[] {2, -2};
        }
        return new int[] {left ? 1 : 0, at.get(0)};
    }

    Part odds(int b, int p, int hp, int q, int hq, int moves, int what, int days) {
        Part sum = Part.of(pulled(b, p, hp, q, hq, moves, -1, days)[0] == what ? 100 - rules[4] : 0, 100);
        for (int arm = 0; arm < 2; arm++) {
            for (int place = 0; place < bones.get(b).arm(arm).length; place++) {
                if (pulled(b, p, hp, q, hq, moves, 10 * arm + place, days)[0] == what) {
                    sum = sum.plus(Part.of(rules[4], 100).times(Part.of(1, bones.get(b).places())));
                }
            }
        }
        return sum;
    }

    // ---- holds

    private List<int[]> choices(int b, int arm, int p) {
        List<int[]> all = new ArrayList<>();
        for (int hold = 1; hold <= bones.get(b).arm(arm).length; hold++) {
            if (people.get(p).kind() != 2) {
                all.add(new int[] {hold, 0});
            }
            all.add(new int[] {hold, 1});
        }
        return all;
    }

    private Part choiceOdds(int b, int p, int[] cp, int q, int[] cq, int what) {
        int moves = cp[1] == 1 ? cq[1] == 1 ? 3 : 0 : cq[1] == 1 ? 1 : 2;
        return odds(b, p, cp[0], q, cq[0], moves, what, now.days()[b]);
    }

    int best(int b, int p, int q, int hq) {
        Part most = null;
        int best = -1;
        for (int[] c : choices(b, 0, p)) {
            Part odds = choiceOdds(b, p, c, q, new int[] {hq, 0}, 0);
            if (most == null || odds.compareTo(most) > 0) {
                most = odds;
                best = 10 * c[0] + c[1];
            }
        }
        return best;
    }

    List<Integer> rests(int b, int p, int q) {
        List<int[]> ps = choices(b, 0, p);
        List<int[]> qs = choices(b, 1, q);
        Part[][] po = new Part[ps.size()][qs.size()];
        Part[][] qo = new Part[ps.size()][qs.size()];
        for (int i = 0; i < ps.size(); i++) {
            for (int j = 0; j < qs.size(); j++) {
                po[i][j] = choiceOdds(b, p, ps.get(i), q, qs.get(j), 0);
                qo[i][j] = choiceOdds(b, p, ps.get(i), q, qs.get(j), 1);
            }
        }
        List<Integer> rests = new ArrayList<>();
        for (int i = 0; i < ps.size(); i++) {
            for (int j = 0; j < qs.size(); j++) {
                boolean rest = true;
                for (int k = 0; k < ps.size(); k++) {
                    rest &= po[k][j].compareTo(po[i][j]) <= 0;
                }
                for (int k = 0; k < qs.size(); k++) {
                    rest &= qo[i][k].compareTo(qo[i][j]) <= 0;
                }
                if (rest) {
                    rests.add(1000 * ps.get(i)[0] + 100 * ps.get(i)[1] + 10 * qs.get(j)[0] + qs.get(j)[1]);
                }
            }
        }
        return rests;
    }

    Part sure(int b, int p, int q) {
        return choices(b, 0, p).stream().map(c -> choices(b, 1, q).stream().map(d -> choiceOdds(b, p, c, q, d, 0))
                .min(Part::compareTo).get()).max(Part::compareTo).get();
    }

    // ---- drying, laws

    int hold(int b, int arm, int p) {
        return Math.min(people.get(p).hold(), bones.get(b).arm(arm).length);
    }

    Part toldOdds(int b, int p, int q, int what, int days) {
        return odds(b, p, hold(b, 0, p), q, hold(b, 1, q), 2, what, days);
    }

    int bestDay(int b, int p, int q) {
        int best = 0;
        for (int d = 1; d <= 24; d++) {
            if (toldOdds(b, p, q, 0, d).compareTo(toldOdds(b, p, q, 0, best)) > 0) {
                best = d;
            }
        }
        return best;
    }

    private boolean takesLeft(int b, int who, int other) {
        if (people.get(who).kind() == 1) {
            return Arrays.stream(bones.get(b).left()).sum() >= Arrays.stream(bones.get(b).right()).sum();
        }
        int days = now.days()[b];
        return toldOdds(b, who, other, 0, days).compareTo(toldOdds(b, other, who, 1, days)) >= 0;
    }

    Part lawOdds(int law, int b, int p, int q) {
        int days = now.days()[b];
        Part left = toldOdds(b, p, q, 0, days);
        Part right = toldOdds(b, q, p, 1, days);
        return switch (law) {
            case 0 -> left;
            case 1 -> takesLeft(b, p, q) ? left : right;
            case 2 -> takesLeft(b, q, p) ? right : left;
            default -> left.plus(right).times(Part.of(1, 2));
        };
    }

    int fairest(int b, int p, int q) {
        int best = 0;
        for (int law = 1; law < 4; law++) {
            if (lawOdds(law, b, p, q).offHalf().compareTo(lawOdds(best, b, p, q).offHalf()) < 0) {
                best = law;
            }
        }
        return best;
    }

    // ---- turns

    /** The first such row of pairs, or null. */
    int[] turns(int w) {
        return turnsFrom(new int[w], 0, new int[people.size()]);
    }

    private int[] turnsFrom(int[] pairs, int week, int[] had) {
        if (week == pairs.length) {
            int most = Arrays.stream(had).max().getAsInt();
            return Arrays.stream(had).allMatch(h -> h >= most - 1) ? pairs.clone() : null;
        }
        int n = people.size();
        int most = (2 * pairs.length + n - 1) / n;
        for (int pair = 1; pair < 10 * n; pair++) {
            int p = pair / 10;
            int q = pair % 10;
            int ahead = week == 0 ? 99 : pairs[week - 1];
            if (p < q && q < n && had[p] < most && had[q] < most && p != ahead / 10 && p != ahead % 10
                    && q != ahead / 10 && q != ahead % 10) {
                pairs[week] = pair;
                had[p]++;
                had[q]++;
                int[] found = turnsFrom(pairs, week + 1, had);
                had[p]--;
                had[q]--;
                if (found != null) {
                    return found;
                }
            }
        }
        return null;
    }

    // ---- bone or hand

    private static Part hand(int pulls, int wins) {
        int ways = 0;
        for (int row = 0; row < 1 << pulls; row++) {
            ways += Integer.bitCount(row) >= wins ? 1 : 0;
        }
        return Part.of(ways, 1 << pulls);
    }

    int pulls(int p) {
        return (int) won.stream().filter(w -> w.winner() == p || w.loser() == p).count();
    }

    int wonBy(int p) {
        return (int) won.stream().filter(w -> w.winner() == p).count();
    }

    Part hand(int p) {
        return hand(pulls(p), wonBy(p));
    }

    Part side() {
        return hand(won.size(), (int) won.stream().filter(w -> w.side() == 0).count());
    }

    int known() {
        int bits = 0;
        for (int p = 0; p < people.size(); p++) {
            bits |= hand(p).compareTo(Part.of(1, 20)) <= 0 ? 1 << p : 0;
        }
        return bits;
    }

    Part thumbs(int p) {
        int[] c = cheats[p];
        Part with = Part.of(c[0], 100);
        Part without = Part.of(100 - c[0], 100);
        for (Won w : won) {
            if (w.winner() == p || w.loser() == p) {
                boolean wins = w.winner() == p;
                with = with.times(Part.of(wins ? c[1] : 10 - c[1], 10));
                without = without.times(Part.of(wins ? c[2] : 10 - c[2], 10));
            }
        }
        Part all = with.plus(without);
        return with.times(Part.of(all.low(), all.up()));
    }

    // ---- wishes, knobs

    int worth(int p) {
        return people.get(p).wish() + fors.stream().filter(f -> f[0] == p).mapToInt(f -> f[2]).sum();
    }

    int let(int p, int q) {
        return worth(p) > worth(q) ? p : worth(q) > worth(p) ? q : Math.min(p, q);
    }

    /** How many, and the owners as bits. */
    int[] knob(int piece) {
        int[] t = pieces.get(piece);
        int[] answer = new int[2];
        for (int b = 0; b < bones.size(); b++) {
            for (int p = 0; p < people.size(); p++) {
                for (int q = 0; q < people.size(); q++) {
                    if (p != q && pulled(b, p, hold(b, 0, p), q, hold(b, 1, q), 2, -1, now.days()[b])[1]
                            == 10 * t[0] + t[1]) {
                        answer[0]++;
                        answer[1] |= t[0] == 1 ? 1 << p : 1 << q;
                    }
                }
            }
        }
        return answer;
    }

    // ---- years

    private int drawn;

    private int draw(int mod) {
        drawn = (int) ((75L * drawn + 74) % 65537);
        return drawn % mod;
    }

    private int flawDrawn(int b) {
        if (draw(100) >= rules[4]) {
            return -1;
        }
        int place = draw(bones.get(b).places());
        int left = bones.get(b).left().length;
        return place < left ? place : 10 + place - left;
    }

    /** WINS by people, then THREE at 6 and BENDS at 7. */
    int[] year(int seed, int n) {
        int[] came = new int[8];
        drawn = seed;
        for (int i = 0; i < n; i++) {
            int b = draw(bones.size());
            int p = draw(people.size());
            int q = draw(people.size() - 1);
            q = q >= p ? q + 1 : q;
            int flaw = flawDrawn(b);
            int what = pulled(b, p, hold(b, 0, p), q, hold(b, 1, q), 2, flaw, now.days()[b])[0];
            came[what == 0 ? p : what == 1 ? q : what + 4]++;
        }
        return came;
    }

    // ---- acts

    private void keep() {
        undo.push(now.copy());
        if (undo.size() > 16) {
            undo.removeLast();
        }
    }

    void dry(int days) {
        keep();
        for (int b = 0; b < bones.size(); b++) {
            if (!now.gone()[b]) {
                now.days()[b] = Math.min(24, now.days()[b] + days);
            }
        }
    }

    void boil(int b) {
        keep();
        now.kinds()[b] = 2;
    }

    int pull(int b, int p, int hp, int q, int hq, int moves) {
        keep();
        drawn = now.seed();
        int flaw = flawDrawn(b);
        seed(drawn);
        int what = pulled(b, p, hp, q, hq, moves, flaw, now.days()[b])[0];
        now.gone()[b] = what != 3;
        if (what < 2) {
            now.wins()[what == 0 ? p : q]++;
        }
        return what;
    }

    void seed(int v) {
        now = new Now(now.kinds(), now.days(), now.gone(), now.wins(), v);
    }

    void undo() {
        now = undo.pop();
    }

    int mark() {
        marks.add(now.copy());
        return marks.size() - 1;
    }

    void back(int mark) {
        now = marks.get(mark).copy();
        undo.clear();
    }
}
