/** Promise 3, by the TOKENS of terms I: blanks, WORDS, WHOLES, single signs. */
public final class Promise03TokensTest {
    private static final Cases C = new Cases(Promise03TokensTest.class);
    private static final String L = Texts.LEAST;

    public static void main(String[] args) throws ReflectiveOperationException {
        C.run();
    }

    private static String person(String name) {
        return L + ";person " + name + " plain force 1 hold 1 wish 1";
    }

    static void blanksAheadBetweenAndBehind() {
        C.sound("   " + L.replace(" ", "   ").replace(",", " , ").replace(";", "  ;  ") + "   ");
    }

    static void noBlanksWhereTokensPartThemselves() {
        C.sound(L.replaceAll("(?<=[0-9]) | (?=[0-9])", ""));
    }

    static void lettersThatStandTogetherAreOneWord() {
        C.faulty(1, L.replace("kitchen bends", "^kitchenbends"));
        C.faulty(1, L.replace("hen dry", "^hendry"));
    }

    static void aBlankPartsWordsAndWholes() {
        C.faulty(1, L.replace("kitchen", "^kit chen"));
        C.faulty(4, L.replace("tough 30", "tough ^3 0"));
        C.faulty(1, L + ";piece left 0 ^0");
    }

    /** 31 and 33 stand beside the blank; the others are what else might be taken for one. */
    static void otherBytesAreNoBlanks() {
        for (int b : new int[] {0, 9, 10, 13, 31, 33, 127, 128, 160, 255}) {
            C.faulty(1, L.replace("kitchen ", "kitchen ^" + (char) b));
            C.faulty(1, "^" + (char) b + L);
            C.faulty(1, L + "^" + (char) b);
        }
    }

    /** 'a' and 'z', and the bytes beside them. */
    static void bytesBesideSmallLetters() {
        C.sound(person("a" + "z"));
        C.sound(person("z" + "a"));
        for (int b : new int[] {'a' - 1, 'z' + 1, 'A', 'Z', 'a' + 128, 'z' + 128}) {
            C.faulty(1, person("^" + (char) b));
            C.faulty(1, person("d^" + (char) b));
        }
    }

    /** '0' and '9', and the bytes beside them. */
    static void bytesBesideDigits() {
        C.sound(L + ";for a b 09");
        C.sound(L + ";for a b 90");
        for (int b : new int[] {'0' - 1, '9' + 1, '0' + 128, '9' + 128}) {
            C.faulty(1, L + ";for a b ^" + (char) b);
            C.faulty(1, L + ";for a b 1^" + (char) b);
        }
        C.faulty(1, L + ";for a b ^-1");
        C.faulty(1, L + ";for a b ^+1");
    }

    static void bytesBesideTheSingleSigns() {
        for (int b : new int[] {';' - 1, ';' + 1}) {
            C.faulty(1, L + "^" + (char) b + "won a b left");
        }
        for (int b : new int[] {',' - 1, ',' + 1}) {
            C.faulty(1, L.replace("left 1,1", "left 1^" + (char) b + "1"));
        }
    }

    static void theSignsAreSingleOnes() {
        C.faulty(1, L + ";^;won a b left");
        C.faulty(1, L.replace("left 1,1", "left 1,^,1"));
        C.faulty(1, L + ";^,");
    }

    static void wordsOfOneToEightLetters() {
        C.sound(person("c"));
        C.sound(person("abcdefgh"));
        C.sound(person("zzzzzzzz"));
    }

    static void nineLettersBeginNoToken() {
        C.faulty(1, person("^abcdefghi"));
        C.faulty(1, person("^" + "z".repeat(100)));
        C.faulty(1, "^kitchensx" + L);
    }

    static void wholesOfOneAndTwoDigits() {
        C.sound(L + ";for a b 0");
        C.sound(L + ";for a b 00");
        C.sound(L + ";for a b 99");
        C.due("01 is 1", C.sound(L.replace("tough 30 jerk 5", "tough 30 jerk 01")).size(2), 1);
    }

    static void threeDigitsBeginNoToken() {
        C.faulty(1, L + ";for a b ^000");
        C.faulty(1, L + ";for a b ^100");
        C.faulty(1, L + ";for a b ^" + "1".repeat(60));
    }

    static void aTokenEndsWhereTheTextDoes() {
        LongerHalf x = new LongerHalf();
        Check.feed(x, Check.bytes(L + ";for a b 100"));
        C.due("kitchen() up to the second digit", x.kitchen(L.length() + 11), 1);
        C.due("worth(0)", x.worth(0), 11);
        LongerHalf y = new LongerHalf();
        Check.feed(y, Check.bytes(L + ";won a b lefts"));
        C.due("kitchen() up to the t", y.kitchen(L.length() + 13), 1);
    }

    /** NAMES that differ in the last of eight letters, or in length, are not alike. */
    static void namesAlmostAlike() {
        LongerHalf x = C.sound(person("abcdefgh") + ";person abcdefgi plain force 2 hold 1 wish 1;"
                + "person abcdefg plain force 3 hold 1 wish 1;person aa plain force 4 hold 1 wish 1;"
                + "for abcdefgi a 1;for abcdefg a 2;for aa a 3");
        C.due("worth(2)", x.worth(2), 1);
        C.due("worth(3)", x.worth(3), 2);
        C.due("worth(4)", x.worth(4), 3);
        C.due("worth(5)", x.worth(5), 4);
    }

    /** Of the same letters in another order, or of one of them more. */
    static void namesOfTheSameLetters() {
        String[] names = {"ba", "ab", "bb", "bbb", "aab", "baa", "aba", "abab"};
        for (String name : names) {
            for (String other : names) {
                if (!name.equals(other)) {
                    LongerHalf x = C.sound(person(name) + ";person " + other + " plain force 2 hold 1 wish 1;won " + other
                            + " " + name + " left");
                    C.due("person(3, 5)", x.person(3, 5), 1);
                }
            }
        }
    }
}
