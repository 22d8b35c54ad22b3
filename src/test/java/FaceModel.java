import java.util.List;

/** The whole face as the document tells it: each call's answer, its refusals in their order, and TROUBLE. */
final class FaceModel {
    /** Stands for a NoSuchElementException. */
    static final long THROWS = Long.MIN_VALUE;

    private final StringBuilder tape = new StringBuilder();
    KitchenModel k;
    private int trouble;
    private int fault;
    private int place;

    private static final class Refused extends RuntimeException {
        private static final long serialVersionUID = 1L;
        final int number;

        Refused(int number) {
            this.number = number;
        }
    }

    private static void unless(boolean holds, int number) {
        if (!holds) {
            throw new Refused(number);
        }
    }

    /** What the call answers; a boolean counts 1 or 0, refused ones NONE, or 0 if they answer a boolean. */
    long call(String name, long[] a, boolean answersBoolean) {
        switch (name) {
            case "feed":
                return feed(a);
            case "fault":
                return fault;
            case "where":
                return trouble == 4 ? place : -1;
            case "size":
                return size((int) a[0]);
            case "trouble":
                return trouble;
            case "led":
                return led((int) a[0]);
            default:
        }
        try {
            int[] n = new int[a.length];
            for (int i = 0; i < n.length; i++) {
                n[i] = (int) a[i];
            }
            long answer = ask(name, n);
            trouble = 0;
            return answer;
        } catch (Refused r) {
            trouble = r.number;
            return answersBoolean ? 0 : -1;
        }
    }

    private long feed(long[] a) {
        if (tape.length() + 20 > 1000) {
            return -1;
        }
        for (long four : a) {
            for (int i = 3; i >= 0; i--) {
                tape.append((char) (four >> 8 * i & 255));
            }
        }
        return tape.length();
    }

    private long size(int what) {
        if (what < 0 || what > 13) {
            return -1;
        }
        if (what == 13) {
            return tape.length();
        }
        if (k == null) {
            return 0;
        }
        int[] sizes = {k.rules[0], k.rules[1], k.rules[2], k.rules[3], k.rules[4], k.bones.size(), k.people.size(),
            k.fors.size(), k.won.size(), k.pieces.size(), k.now.seed(), k.undo.size(), k.marks.size()};
        return sizes[what];
    }

    private long led(int i) {
        int met = 0;
        for (int b = 0; k != null && b < k.bones.size(); b++) {
            if (!k.now.gone()[b] && met++ == i) {
                return b;
            }
        }
        return THROWS;
    }

    // ---- refusals

    private void some() {
        unless(k != null, 1);
    }

    private void bone(int b) {
        unless(k != null && b >= 0 && b < k.bones.size(), 1);
    }

    private void person(int p) {
        unless(k != null && p >= 0 && p < k.people.size(), 1);
    }

    private void people(int p, int q) {
        person(p);
        person(q);
        unless(p != q, 1);
    }

    private void within(int v, int least, int most, int number) {
        unless(v >= least && v <= most, number);
    }

    private void place(int b, int arm, int place) {
        bone(b);
        within(arm, 0, 1, 1);
        within(place, 0, k.bones.get(b).arm(arm).length - 1, 1);
    }

    private void pair(int b, int p, int q) {
        bone(b);
        people(p, q);
    }

    private void hold(int b, int arm, int hold) {
        within(hold, 1, k.bones.get(b).arm(arm).length, 2);
    }

    private void pull(int[] a, int i) {
        pair(a[i], a[i + 1], a[i + 3]);
        hold(a[i], 0, a[i + 2]);
        hold(a[i], 1, a[i + 4]);
        within(a[i + 5], 0, 3, 2);
    }

    private int days(int b) {
        return k.now.days()[b];
    }

    private long ask(String name, int[] a) {
        switch (name) {
            case "kitchen":
                return kitchen(a[0]);
            case "bone":
            case "thick":
            case "person":
                return asTold(name, a);
            case "strength":
            case "strain":
            case "pulled":
            case "breaksAt":
            case "flawed":
            case "odds":
                return aPull(name, a);
            case "best":
            case "rests":
            case "rest":
            case "sure":
                return holds(name, a);
            case "curve":
            case "bestDay":
            case "lawOdds":
            case "fairest":
                return laws(name, a);
            case "turnsOf":
            case "turnAt":
                return turns(name, a);
            case "hand":
            case "side":
            case "known":
            case "hens":
            case "thumbs":
                return hands(name, a);
            case "let":
            case "worth":
            case "knob":
            case "owners":
            case "wins":
            case "spoilt":
                return wishesAndYears(name, a);
            default:
                return acts(name, a);
        }
    }

    private long kitchen(int n) {
        within(n, 0, tape.length(), 2);
        TextModel text = new TextModel(tape.substring(0, n));
        tape.setLength(0);
        fault = text.fault;
        place = text.place;
        unless(fault == 0, 4);
        k = new KitchenModel(text.tokens);
        return k.bones.size();
    }

    private long asTold(String name, int[] a) {
        if (name.equals("thick")) {
            place(a[0], a[1], a[2]);
            return k.bones.get(a[0]).arm(a[1])[a[2]];
        }
        if (name.equals("bone")) {
            bone(a[0]);
            within(a[1], 0, 4, 1);
            KitchenModel.Bone b = k.bones.get(a[0]);
            return new int[] {k.now.kinds()[a[0]], days(a[0]), b.left().length, b.right().length,
                k.now.gone()[a[0]] ? 1 : 0}[a[1]];
        }
        person(a[0]);
        within(a[1], 0, 6, 1);
        KitchenModel.Person p = k.people.get(a[0]);
        return new int[] {p.kind(), p.force(), p.hold(), p.wish(), k.pulls(a[0]), k.wonBy(a[0]),
            k.now.wins()[a[0]]}[a[1]];
    }

    private long aPull(String name, int[] a) {
        switch (name) {
            case "strength":
                place(a[0], a[1], a[2]);
                person(a[3]);
                return k.strength(a[0], a[1], a[2], a[3], days(a[0]));
            case "strain":
                place(a[0], a[1], a[2]);
                pull(new int[] {a[0], a[3], a[4], a[5], a[6], a[7]}, 0);
                return k.strain(a[0], a[1], a[2], a[3], a[4], a[5], a[6], a[7]);
            case "flawed":
                place(a[0], a[6], a[7]);
                pull(a, 0);
                return k.pulled(a[0], a[1], a[2], a[3], a[4], a[5], 10 * a[6] + a[7], days(a[0]))[0];
            case "odds":
                within(a[6], 0, 3, 1);
                pull(a, 0);
                return k.odds(a[0], a[1], a[2], a[3], a[4], a[5], a[6], days(a[0])).asked(a[7] == 1);
            default:
                pull(a, 0);
                int[] came = k.pulled(a[0], a[1], a[2], a[3], a[4], a[5], -1, days(a[0]));
                return name.equals("pulled") ? came[0] : came[1];
        }
    }

    private long holds(String name, int[] a) {
        pair(a[0], a[1], a[2]);
        if (name.equals("best")) {
            hold(a[0], 1, a[3]);
            return k.best(a[0], a[1], a[2], a[3]);
        }
        if (name.equals("sure")) {
            return k.sure(a[0], a[1], a[2]).asked(a[3] == 1);
        }
        List<Integer> rests = k.rests(a[0], a[1], a[2]);
        return name.equals("rests") ? rests.size() : rests.isEmpty() ? -2 : rests.get(0);
    }

    private long laws(String name, int[] a) {
        if (name.equals("lawOdds")) {
            within(a[0], 0, 3, 1);
            pair(a[1], a[2], a[3]);
            return k.lawOdds(a[0], a[1], a[2], a[3]).asked(a[4] == 1);
        }
        pair(a[0], a[1], a[2]);
        if (name.equals("curve")) {
            within(a[3], 0, 24, 2);
            return k.toldOdds(a[0], a[1], a[2], 0, a[3]).asked(a[4] == 1);
        }
        return name.equals("bestDay") ? k.bestDay(a[0], a[1], a[2]) : k.fairest(a[0], a[1], a[2]);
    }

    private long turns(String name, int[] a) {
        some();
        within(a[0], 1, 9, 2);
        if (name.equals("turnsOf")) {
            return k.turns(a[0]) != null ? 1 : 0;
        }
        within(a[1], 0, a[0] - 1, 1);
        int[] turns = k.turns(a[0]);
        unless(turns != null, 6);
        return turns[a[1]];
    }

    private long hands(String name, int[] a) {
        switch (name) {
            case "side":
                some();
                return k.side().asked(a[0] == 1);
            case "known":
                some();
                return k.known();
            case "hens":
                some();
                within(a[0], 1, 1000000, 2);
                return a[0] == 1 ? 0 : 32 - Integer.numberOfLeadingZeros(a[0] - 1);
            case "hand":
                person(a[0]);
                return k.hand(a[0]).asked(a[1] == 1);
            default:
                person(a[0]);
                unless(k.cheats[a[0]] != null, 6);
                return k.thumbs(a[0]).asked(a[1] == 1);
        }
    }

    private long wishesAndYears(String name, int[] a) {
        switch (name) {
            case "let":
                people(a[0], a[1]);
                return k.let(a[0], a[1]);
            case "worth":
                person(a[0]);
                return k.worth(a[0]);
            case "wins":
                person(a[0]);
                within(a[1], 0, 65536, 2);
                within(a[2], 0, 200, 2);
                return k.year(a[1], a[2])[a[0]];
            case "spoilt":
                some();
                within(a[0], 0, 65536, 2);
                within(a[1], 0, 200, 2);
                return k.year(a[0], a[1])[a[2] == 1 ? 7 : 6];
            default:
                some();
                within(a[0], 0, k.pieces.size() - 1, 1);
                return k.knob(a[0])[name.equals("knob") ? 0 : 1];
        }
    }

    private long acts(String name, int[] a) {
        switch (name) {
            case "dry":
                some();
                within(a[0], 1, 24, 2);
                k.dry(a[0]);
                return 1;
            case "boil":
                bone(a[0]);
                unless(!k.now.gone()[a[0]] && k.now.kinds()[a[0]] != 2, 5);
                k.boil(a[0]);
                return 1;
            case "pull":
                pull(a, 0);
                unless(k.bones.get(a[0]).kind() != 1 && !k.now.gone()[a[0]], 5);
                return k.pull(a[0], a[1], a[2], a[3], a[4], a[5]);
            case "seed":
                some();
                within(a[0], 0, 65536, 2);
                k.seed(a[0]);
                return 1;
            case "undo":
                unless(k != null && !k.undo.isEmpty(), 6);
                k.undo();
                return 1;
            case "mark":
                some();
                unless(k.marks.size() < 3, 3);
                return k.mark();
            case "back":
                unless(k != null && a[0] >= 0 && a[0] < k.marks.size(), 1);
                k.back(a[0]);
                return 1;
            default:
                throw new IllegalStateException(name);
        }
    }
}
