/** Texts of KITCHENS that several tests tell. */
final class Texts {
    static final String RULES = "kitchen bends 2 tough 30 jerk 5 thumb 2 flaw 0";
    static final String HEN = "bone h hen dry 1 left 1,1 right 1,1";
    static final String A = "person a plain force 1 hold 1 wish 1";
    static final String B = "person b plain force 1 hold 1 wish 1";
    /** The least that is a KITCHEN. */
    static final String LEAST = RULES + ";" + HEN + ";" + A + ";" + B;

    /** All sorts of LINES: a plain one, a cook, a child and a cheat; a hen's bone, a goose's and a boiled one. */
    static final String RULES_FULL = "kitchen bends 2 tough 30 jerk 50 thumb 20 flaw 20";
    static final String BONES_FULL = "bone h hen dry 10 left 2,3 right 3,1,2;"
            + "bone g goose dry 24 left 1,1 right 1,1;bone x boiled dry 9 left 1,1 right 1,1";
    static final String PEOPLE_FULL = "person a plain force 10 hold 2 wish 5;person b cook force 20 hold 3 wish 9;"
            + "person c child force 5 hold 1 wish 7;person d cheat force 10 hold 6 wish 1";
    static final String TALES_FULL = "for a b 4;for b a 9;for c a 1;won a b left;won a c right;won b a left;"
            + "won a d left;won a b left;won a c left;piece right 1;piece left 0;cheats d 50 thumb 8 fair 5";
    static final String FULL = RULES_FULL + ";" + BONES_FULL + ";" + PEOPLE_FULL + ";" + TALES_FULL;

    /** STRENGTH is the thickness, as tough 25 is with 24 days; no FLAW, and jerks and thumbs count nothing. */
    static final String BRITTLE = rules(0, 25, 0, 0, 0);
    /** Two by whom FORCE is 2, each as far out as an arm goes. */
    static final String PAIR = "person a plain force 1 hold 6 wish 0;person b plain force 1 hold 6 wish 0";

    private Texts() {
    }

    static String of(String... lines) {
        return String.join(";", lines);
    }

    static String rules(int bends, int tough, int jerk, int thumb, int flaw) {
        return "kitchen bends " + bends + " tough " + tough + " jerk " + jerk + " thumb " + thumb + " flaw " + flaw;
    }

    /** A hen's bone of 24 days. */
    static String hen(String name, String left, String right) {
        return "bone " + name + " hen dry 24 left " + left + " right " + right;
    }

    static String person(String name, String kind, int force, int hold) {
        return "person " + name + " " + kind + " force " + force + " hold " + hold + " wish 0";
    }

    /** One BRITTLE bone h for a PAIR. */
    static String brittle(String left, String right) {
        return of(BRITTLE, hen("h", left, right), PAIR);
    }

    /** A BRITTLE bone of which so many in a hundred have a FLAW. */
    static String flawed(int flaw, String left, String right) {
        return of(rules(0, 25, 0, 0, flaw), hen("h", left, right), PAIR);
    }

    /** The least KITCHEN, but with so many people, called a, b and so on. */
    static String people(int count) {
        StringBuilder text = new StringBuilder(RULES + ";" + HEN);
        for (int p = 0; p < count; p++) {
            text.append(";person ").append((char) ('a' + p)).append(" plain force 1 hold 1 wish 1");
        }
        return text.toString();
    }

    /** So many LINES, each behind a ; with # for a, b and so on. */
    static String more(String line, int from, int count) {
        StringBuilder text = new StringBuilder();
        for (int i = 0; i < count; i++) {
            text.append(';').append(line.replace('#', (char) ('a' + from + i)));
        }
        return text.toString();
    }
}
