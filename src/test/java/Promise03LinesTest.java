/** Promise 3, by the LINES of terms I: each WHOLE at its bounds, how many LINES there is room for, KINDS, NAMES. */
public final class Promise03LinesTest {
    private static final Cases C = new Cases(Promise03LinesTest.class);
    private static final String L = Texts.LEAST;

    public static void main(String[] args) throws ReflectiveOperationException {
        C.run();
    }

    /** A WHOLE in the place of # at its bounds, one below and one above; 100 has three digits. */
    private static void whole(String text, int least, int most) {
        C.sound(text.replace("#", "" + least));
        C.sound(text.replace("#", "" + most));
        C.faulty(most < 99 ? 4 : 1, text.replace("#", "^" + (most + 1)));
        if (least > 0) {
            C.faulty(4, text.replace("#", "^" + (least - 1)));
        }
        if (most < 99) {
            C.faulty(4, text.replace("#", "^99"));
        }
    }

    private static String rule(String name) {
        return L.replaceFirst(name + " \\d+", name + " #");
    }

    static void bends() {
        whole(rule("bends"), 0, 9);
    }

    static void tough() {
        whole(rule("tough"), 25, 60);
    }

    static void jerk() {
        whole(rule("jerk"), 0, 99);
    }

    static void thumb() {
        whole(rule("thumb"), 0, 99);
    }

    static void flaw() {
        whole(rule("flaw"), 0, 99);
    }

    static void dry() {
        whole(rule("dry"), 0, 24);
    }

    static void thicknesses() {
        whole(L.replace("left 1,1", "left #,1"), 1, 9);
        whole(L.replace("left 1,1", "left 1,#"), 1, 9);
        whole(L.replace("right 1,1", "right #,1"), 1, 9);
        whole(L.replace("right 1,1", "right 1,1,1,1,1,#"), 1, 9);
    }

    static void force() {
        whole(rule("force"), 1, 40);
    }

    static void hold() {
        whole(rule("hold"), 1, 6);
    }

    static void wish() {
        whole(rule("wish"), 0, 99);
    }

    static void forOthers() {
        whole(L + ";for a b #", 0, 99);
    }

    static void piecePlace() {
        whole(L + ";piece left #", 0, 5);
        whole(L + ";piece right #", 0, 5);
    }

    static void cheatsInAHundred() {
        whole(L + ";cheats a # thumb 1 fair 1", 0, 99);
    }

    static void cheatsTenths() {
        whole(L + ";cheats a 0 thumb # fair 9", 1, 9);
        whole(L + ";cheats a 0 thumb 9 fair #", 1, 9);
    }

    private static void arm(String side) {
        String text = L.replace(side + " 1,1", side + " #");
        int where = side.equals("left") ? 2 : 3;
        C.due("two", C.sound(text.replace("#", "1,1")).bone(0, where), 2);
        C.due("six", C.sound(text.replace("#", "1,1,1,1,1,1")).bone(0, where), 6);
        C.faulty(5, text.replace("#", "1,1,1,1,1,1,^1"));
    }

    static void twoToSixThicknessesOfTheLeftArm() {
        arm("left");
        C.faulty(6, L.replace("left 1,1 right", "left 1 ^right"));
    }

    static void twoToSixThicknessesOfTheRightArm() {
        arm("right");
        C.faulty(6, L.replace("right 1,1;", "right 1^;"));
    }

    /** As many LINES of a sort as there is room for, then one more. */
    private static void room(String ahead, String lines, int what, int most) {
        String word = lines.substring(1, lines.indexOf(' '));
        C.due("size(" + what + ") of " + most, C.sound(ahead + lines).size(what), most);
        C.faulty(5, ahead + lines + ";^" + word);
    }

    static void upToFiveBones() {
        room(L, Texts.more("bone # hen dry 1 left 1,1 right 1,1", 10, 4), 5, 5);
    }

    static void upToSixPeople() {
        room(L, Texts.more("person # plain force 1 hold 1 wish 1", 2, 4), 6, 6);
    }

    static void upToTenFors() {
        String fors = Texts.more("for a # 1", 1, 5) + Texts.more("for # a 1", 1, 5);
        room(Texts.people(6), fors, 7, 10);
    }

    static void upToTwelveHalvesWon() {
        room(L, Texts.more("won a b left", 0, 12), 8, 12);
    }

    static void upToFourPieces() {
        room(L, Texts.more("piece left 0", 0, 4), 9, 4);
    }

    static void noForsHalvesPiecesAtAll() {
        LongerHalf x = C.sound(L);
        C.due("size(7)", x.size(7), 0);
        C.due("size(8)", x.size(8), 0);
        C.due("size(9)", x.size(9), 0);
    }

    static void cheatsOnceForEach() {
        String six = Texts.people(6) + Texts.more("cheats # 1 thumb 1 fair 1", 0, 6);
        C.sound(six);
        C.faulty(3, six + ";cheats ^f 1 thumb 1 fair 1");
    }

    /** Each WORD that must stand somewhere, with any of its letters changed: FORM at it, whatever else it might be. */
    static void wordsWithALetterChanged() {
        String text = L + ";for a b 1;won a b left;piece left 1;cheats a 1 thumb 1 fair 1;";
        for (String word : ("kitchen bends tough jerk thumb flaw bone hen dry left right person plain force hold wish for won "
                + "piece cheats fair").split(" ")) {
            int at = (" " + text.replace(';', ' ')).indexOf(" " + word + " ");
            for (int i = 0; i < word.length(); i++) {
                char changed = word.charAt(i) == 'x' ? 'y' : 'x';
                C.faulty(1, text.substring(0, at) + "^" + word.substring(0, i) + changed + text.substring(at + i + 1));
            }
        }
    }

    static void kindsOfBones() {
        String[] kinds = {"hen", "goose", "boiled"};
        for (int kind = 0; kind < 3; kind++) {
            C.due("bone(0, 0)", C.sound(L.replace("h hen", "h " + kinds[kind])).bone(0, 0), kind);
        }
        C.faulty(1, L.replace("h hen", "h ^plain"));
        C.faulty(1, L.replace("h hen", "h ^he"));
        C.faulty(1, L.replace("h hen", "h ^hens"));
    }

    static void kindsOfPeople() {
        String[] kinds = {"plain", "cook", "child", "cheat"};
        for (int kind = 0; kind < 4; kind++) {
            C.due("person(0, 0)", C.sound(L.replace("a plain", "a " + kinds[kind])).person(0, 0), kind);
        }
        C.faulty(1, L.replace("a plain", "a ^hen"));
        C.faulty(1, L.replace("a plain", "a ^cheats"));
    }

    static void sides() {
        C.sound(L + ";won a b left;won b a right;piece left 1;piece right 1");
        C.faulty(1, L + ";won a b ^up");
        C.faulty(1, L + ";piece ^up 1");
        C.faulty(1, L + ";piece ^1");
    }

    /** The nine WORDS that begin a LINE or tell a SIDE are no NAMES; all others are. */
    static void namesThatAreNone() {
        for (String word : "kitchen bone person for won piece cheats left right".split(" ")) {
            C.faulty(1, L + ";bone ^" + word + " hen dry 1 left 1,1 right 1,1");
            C.faulty(1, L + ";person ^" + word + " plain force 1 hold 1 wish 1");
            C.faulty(1, L + ";for ^" + word + " a 1");
            C.faulty(1, L + ";won a ^" + word + " left");
            C.faulty(1, L + ";cheats ^" + word + " 1");
        }
        for (String word : "bends tough jerk thumb flaw hen goose boiled dry plain cook child cheat force hold wish fair"
                .split(" ")) {
            C.sound(L + ";person " + word + " plain force 1 hold 1 wish 1;cheats " + word + " 1 thumb 1 fair 1");
            C.sound(L + ";bone " + word + " hen dry 1 left 1,1 right 1,1");
        }
    }

    /** Each two once: by one for another, and by that one for the first, are not the same. */
    static void eachTwoOnce() {
        LongerHalf x = C.sound(L + ";for a b 1;for b a 2");
        C.due("size(7)", x.size(7), 2);
        C.faulty(3, L + ";for a b 1;for b a 2;for b ^a 2");
    }

    static void theSameTwoMayPullOften() {
        C.sound(L + ";won a b left;won a b left;won b a left");
    }

    static void kitchenAheadOfAllOthers() {
        C.faulty(6, "^" + Texts.HEN + ";" + Texts.RULES);
        C.sound(L);
    }

    /** Behind the kitchen LINES come in any order, as long as NAMES are told ahead of their use. */
    static void linesInAnyOrder() {
        C.sound(Texts.of(Texts.RULES, "piece left 0", Texts.A, "cheats a 1 thumb 1 fair 1", Texts.B, "won a b left",
                Texts.HEN, "for b a 1"));
    }

    static void oneBoneAndTwoPeopleAreTheLeast() {
        C.sound(L);
        C.faulty(6, Texts.of(Texts.RULES, Texts.A, Texts.B) + "^");
        C.faulty(6, Texts.of(Texts.RULES, Texts.HEN, Texts.A) + "^");
        C.faulty(6, Texts.RULES + "^");
    }
}
