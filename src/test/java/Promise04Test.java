/** Promise 4: fault, by the FAULTS of terms I. */
public final class Promise04Test {
    private static final Cases C = new Cases(Promise04Test.class);
    private static final String L = Texts.LEAST;

    public static void main(String[] args) throws ReflectiveOperationException {
        C.run();
    }

    static void withoutOneItIsZero() {
        C.due("fault() of a new one", new LongerHalf().fault(), 0);
        C.due("fault() of a sound text", C.sound(L).fault(), 0);
    }

    static void itIsThatOfTheLatestKitchen() {
        LongerHalf x = new LongerHalf();
        Check.tell(x, "bone");
        C.due("fault()", x.fault(), 6);
        Check.tell(x, "!");
        C.due("fault()", x.fault(), 1);
        Check.tell(x, L);
        C.due("fault() behind a sound text", x.fault(), 0);
    }

    static void itStaysIfKitchenIsRefusedBy2() {
        LongerHalf x = new LongerHalf();
        Check.tell(x, "bone");
        C.refused(x, "kitchen(1)", x.kitchen(1), 2);
        C.due("fault()", x.fault(), 6);
        Check.tell(x, L);
        C.refused(x, "kitchen(-1)", x.kitchen(-1), 2);
        C.due("fault()", x.fault(), 0);
    }

    static void otherCallsLeaveIt() {
        LongerHalf x = Check.told(L);
        Check.tell(x, "bone");
        x.dry(1);
        x.dry(0);
        x.undo();
        C.due("fault()", x.fault(), 6);
    }

    // ---- 1 FORM

    static void formAtTheFirstByteThatBeginsNoToken() {
        C.faulty(1, "^!");
        C.faulty(1, "kitchen bends 1 ^? tough");
        C.faulty(1, L + ";won a b left^.");
    }

    static void formAtATokenWithWhichNoKitchenGoesOn() {
        C.faulty(1, "^;" + L);
        C.faulty(1, "^5");
        C.faulty(1, "^x");
        C.faulty(1, "kitchen ^kitchen");
        C.faulty(1, "kitchen ^tough");
        C.faulty(1, L.replace("bends 2", "bends ^two"));
        C.faulty(1, L.replace("flaw 0;", "flaw 0 ^,"));
        C.faulty(1, L.replace("dry 1 left", "dry 1 ^right"));
        C.faulty(1, L.replace("dry 1", "^force 1"));
        C.faulty(1, L.replace("wish 1;", "wish 1 ^2;"));
        C.faulty(1, L + ";^hen");
        C.faulty(1, L + ";^left");
    }

    /** Behind each TOKEN of a LINE the end is none with which a KITCHEN goes on, but for a whole LINE. */
    static void formAtTheEnd() {
        String[] lines = {Texts.HEN.replace(" h ", " d "), "person c plain force 1 hold 1 wish 1", "for a b 1",
            "won a b left", "piece left 1", "cheats a 1 thumb 1 fair 1"};
        for (String line : lines) {
            String[] tokens = line.replace(",", " , ").split(" +");
            String ahead = L + ";";
            for (int i = 0; i < tokens.length; i++) {
                C.faulty(1, ahead + "^");
                ahead += tokens[i] + " ";
                // the right arm has one thickness there: that is told by 6
                if (line.startsWith("bone") && i == tokens.length - 3) {
                    C.faulty(6, ahead + "^");
                    break;
                }
            }
        }
    }

    static void formAtTheEndOfNothing() {
        C.faulty(1, "^");
        C.faulty(1, " ^");
        C.faulty(1, " ".repeat(1000) + "^");
        C.faulty(1, L + ";^");
        C.faulty(1, L + "; ^");
    }

    // ---- 2

    static void aNameThatIsntTold() {
        C.faulty(2, L + ";for ^c a 1");
        C.faulty(2, L + ";for a ^c 1");
        C.faulty(2, L + ";won ^c a left");
        C.faulty(2, L + ";won a ^c left");
        C.faulty(2, L + ";cheats ^c 1");
    }

    static void aNameOfAnotherSort() {
        C.faulty(2, L + ";for ^h a 1");
        C.faulty(2, L + ";for a ^h 1");
        C.faulty(2, L + ";won ^h a left");
        C.faulty(2, L + ";won a ^h left");
        C.faulty(2, L + ";cheats ^h 1");
    }

    static void aNameToldBehindItsUse() {
        C.faulty(2, Texts.of(Texts.RULES, Texts.HEN, Texts.A, "won a ^b left", Texts.B));
        C.faulty(2, Texts.of(Texts.RULES, Texts.HEN, "cheats ^a 1 thumb 1 fair 1", Texts.A, Texts.B));
    }

    // ---- 3

    static void aNameToldAgain() {
        C.faulty(3, L + ";bone ^h hen");
        C.faulty(3, L + ";bone ^a hen");
        C.faulty(3, L + ";person ^b plain");
        C.faulty(3, L + ";person ^h plain");
    }

    static void aSecondPersonThatIsTheFirst() {
        C.faulty(3, L + ";for b ^b 1");
        C.faulty(3, L + ";won a ^a left");
    }

    static void aPersonForWhomThatIsToldAlready() {
        C.faulty(3, L + ";for a b 1;for a ^b 1");
        C.faulty(3, Texts.people(3) + ";for a b 1;for a c 1;for b c 1;for a ^c 0");
    }

    static void aPersonWhoCheatsAlready() {
        C.faulty(3, L + ";cheats b 0 thumb 1 fair 1;cheats ^b 1");
    }

    static void aSecondKitchen() {
        C.faulty(3, L + ";^kitchen");
        C.faulty(3, Texts.RULES + ";^" + Texts.RULES);
    }

    // ---- 5 and 6: see Promise03LinesTest for how many there is room for

    static void aLineTooManyIsMetAheadOfWhatIsInIt() {
        C.faulty(5, L + Texts.more("piece left 0", 0, 4) + ";^piece up 9");
        C.faulty(5, L + Texts.more("won a b left", 0, 12) + ";^won a a left");
    }

    static void aSeventhThickness() {
        C.faulty(5, L.replace("left 1,1", "left 1,2,3,4,5,6, ^7"));
        C.faulty(5, L.replace("right 1,1", "right 1,2,3,4,5,6,^7,8"));
        C.faulty(1, L.replace("right 1,1", "right 1,2,3,4,5,6,^"));
    }

    static void anyLineAheadOfTheKitchen() {
        for (String word : "bone person for won piece cheats".split(" ")) {
            C.faulty(6, "^" + word);
            C.faulty(6, "  ^" + word + " ! ;" + L);
        }
    }

    static void anArmOfOneThickness() {
        C.faulty(6, L.replace("left 1,1 ", "left 1 ^"));
        C.faulty(6, L.replace("right 1,1", "right 1 ^"));
        C.faulty(6, Texts.of(Texts.RULES, Texts.A, Texts.B, "bone h hen dry 1 left 1,1 right 1 ^"));
    }

    static void anArmOfOneThicknessAheadOfAnotherToken() {
        C.faulty(1, L.replace("left 1,1 right", "left 1 ^left"));
        C.faulty(1, L.replace("right 1,1;", "right 1 ^right 1;"));
        C.faulty(1, L.replace("left 1,1 right", "left 1 ^2 right"));
        C.faulty(1, L.replace("right 1,1;", "right 1 ^2;"));
    }

    static void noBoneOrFewerThanTwoPeopleAtTheEnd() {
        C.faulty(6, Texts.of(Texts.RULES, Texts.A, Texts.B, "won a b left") + "  ^");
        C.faulty(6, Texts.of(Texts.RULES, Texts.HEN) + "^");
        C.faulty(6, Texts.of(Texts.RULES, Texts.HEN, Texts.B) + "^");
    }

    // ---- which of several

    static void theFirstFromTheLeft() {
        C.faulty(4, "kitchen bends ^10 tough 61 jerk !");
        C.faulty(3, L + ";won a ^a up");
        C.faulty(2, L + ";won ^x x up");
        C.faulty(6, "^bone kitchen");
        C.faulty(4, L + ";bone c hen dry ^25 left 1 right 1");
    }

    static void ofOnePlaceTheLeastNumber() {
        // the end: a LINE lacks, and so do bones and people
        C.faulty(1, "^");
        C.faulty(1, Texts.RULES + ";^");
        // an arm of one thickness, but no other arm
        C.faulty(1, L.replace("left 1,1 right 1,1;", "left 1^;"));
        C.faulty(1, Texts.RULES + ";bone h hen dry 1 left 1^");
        // a seventh thickness that is out of bounds
        C.faulty(4, L.replace("left 1,1", "left 1,1,1,1,1,1,^0"));
        C.faulty(4, L.replace("left 1,1", "left 1,1,1,1,1,1,^10"));
        // an untold one whom also the first PERSON can't be
        C.faulty(2, L + ";for a ^h 1");
    }
}
