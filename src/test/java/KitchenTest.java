/** Promises 1 to 5: a new object, feed, kitchen, fault, where. */
public final class KitchenTest {
    private static final Check CHECK = new Check("KitchenTest");
    private static final String L = Texts.LEAST;

    public static void main(String[] args) {
        newObject();
        tape();
        kitchenStays();
        wherePlace();
        form();
        untold();
        again();
        bounds();
        many();
        lacks();
        leastNumber();
        sound();
        CHECK.end();
    }

    private static void newObject() {
        LongerHalf x = new LongerHalf();
        CHECK.due("trouble() of a new one", x.trouble(), 0);
        CHECK.due("fault() of a new one", x.fault(), 0);
        CHECK.due("where() of a new one", x.where(), -1);
        for (int what = 0; what <= 13; what++) {
            CHECK.due("size(" + what + ") of a new one", x.size(what), 0);
        }
        CHECK.refused(x, "bone(0, 0) of a new one", x.bone(0, 0), 1);
        CHECK.refused(x, "person(0, 0) of a new one", x.person(0, 0), 1);
    }

    private static void tape() {
        LongerHalf x = new LongerHalf();
        for (int i = 1; i <= 50; i++) {
            CHECK.due("feed() " + i, x.feed(0x20202020, -1, 0, 1, 2), 20 * i);
        }
        x.hens(1);
        CHECK.due("feed() beyond 1,000", x.feed(1, 2, 3, 4, 5), -1);
        CHECK.due("feed() has no number of its own", x.trouble(), 1);
        CHECK.due("size(13) of a full tape", x.size(13), 1000);
        CHECK.refused(x, "kitchen(1001)", x.kitchen(1001), 2);
        CHECK.refused(x, "kitchen(-1)", x.kitchen(-1), 2);
        CHECK.due("size(13): the tape stays", x.size(13), 1000);
        CHECK.refused(x, "kitchen(1000)", x.kitchen(1000), 4);
        CHECK.due("where() of a byte above 127", x.where(), 4);
        CHECK.due("size(13): it is empty", x.size(13), 0);
        CHECK.due("feed() again", x.feed(1, 2, 3, 4, 5), 20);
    }

    private static void kitchenStays() {
        LongerHalf x = Check.told(Texts.FULL);
        x.dry(1);
        x.seed(77);
        x.mark();
        CHECK.refused(x, "kitchen() with a fault", Check.tell(x, "kitchen"), 4);
        CHECK.due("size(5): the kitchen stays", x.size(5), 3);
        CHECK.due("size(10): the seed stays", x.size(10), 77);
        CHECK.due("size(11): acts stay", x.size(11), 1);
        CHECK.due("size(12): marks stay", x.size(12), 1);
        CHECK.due("bone(0, 1) stays", x.bone(0, 1), 11);
        x.pull(0, 0, 2, 1, 3, 2);
        CHECK.due("kitchen() anew", Check.tell(x, Texts.FULL), 3);
        CHECK.due("trouble()", x.trouble(), 0);
        CHECK.due("fault() without one", x.fault(), 0);
        CHECK.due("size(10): seed 0", x.size(10), 0);
        CHECK.due("size(11): nothing to undo", x.size(11), 0);
        CHECK.due("size(12): no marks", x.size(12), 0);
        CHECK.due("bone(0, 1) as told", x.bone(0, 1), 10);
        CHECK.due("bone(0, 4) not gone", x.bone(0, 4), 0);
        CHECK.due("person(0, 6) nothing pulled", x.person(0, 6), 0);
        CHECK.due("kitchen() with less", Check.tell(x, L), 1);
        CHECK.due("size(6)", x.size(6), 2);
        CHECK.due("size(7)", x.size(7), 0);
        CHECK.due("size(8)", x.size(8), 0);
        CHECK.due("size(9)", x.size(9), 0);
        CHECK.due("person(0, 4)", x.person(0, 4), 0);
        CHECK.due("worth(0)", x.worth(0), 1);
    }

    private static void wherePlace() {
        LongerHalf x = new LongerHalf();
        Check.tell(x, "kitchen !");
        CHECK.due("where()", x.where(), 8);
        x.feed(0, 0, 0, 0, 0);
        x.size(3);
        CHECK.due("where() behind calls that are not refused", x.where(), 8);
        CHECK.refused(x, "kitchen(21)", x.kitchen(21), 2);
        CHECK.due("where() behind a refusal by 2", x.where(), -1);
        CHECK.due("fault() behind a refusal by 2", x.fault(), 1);
        Check.tell(x, L);
        LongerHalf y = Check.told(L);
        Check.tell(y, "bone");
        CHECK.due("where() of bone", y.where(), 0);
        y.known();
        CHECK.due("where() behind a call that is not refused", y.where(), -1);
        CHECK.due("fault() stays", y.fault(), 6);
    }

    private static void faulty(int number, String marked) {
        CHECK.faulty(number, marked);
    }

    private static void form() {
        faulty(1, "^");
        faulty(1, "   ^");
        faulty(1, "^;");
        faulty(1, "^hen");
        faulty(1, "^7");
        faulty(1, "^left");
        faulty(1, "kitchen^");
        faulty(1, "kitchen  ^");
        faulty(1, "kitchen ^Bends");
        faulty(1, "kitchen ^tough 30");
        faulty(1, "kitchen bends ^tough");
        faulty(1, "kitchen bends 2 tough 30 jerk 5 thumb 2 flaw ^100");
        faulty(1, "kitchen bends 2 tough 30 jerk 5 thumb 2^");
        faulty(1, Texts.RULES + ";^");
        faulty(1, Texts.RULES + "^,");
        faulty(1, Texts.RULES + " ^5");
        faulty(1, L + ";^");
        faulty(1, L + ";^;");
        faulty(1, L + "^.");
        faulty(1, L + "^\n");
        faulty(1, L + "; ^hold");
        for (String kept : "kitchen bone person for won piece cheats left right".split(" ")) {
            faulty(1, L + ";person ^" + kept + " plain");
            faulty(1, L + ";bone ^" + kept + " hen");
            faulty(1, L + ";won ^" + kept + " a left");
        }
        faulty(1, L + ";person ^12");
        faulty(1, L + ";person ^abcdefghi plain force 1 hold 1 wish 1");
        faulty(1, L + ";person c ^hen force 1 hold 1 wish 1");
        faulty(1, L + ";bone c ^plain");
        faulty(1, L + ";bone c hen dry 1 left ^right");
        faulty(1, L + ";bone c hen dry 1 left 1,^,");
        faulty(1, L + ";bone c hen dry 1 left 1,1 ^2");
        faulty(1, L + ";bone c hen dry 1 left 1^;");
        faulty(1, L + ";bone c hen dry 1 left 1^");
        faulty(1, L + ";bone c hen dry 1 left 1 ^left");
        faulty(1, L + ";bone c hen dry 1 left 1,1 right 1 ^right");
        faulty(1, L + ";bone c hen dry 1 left 1,1 right 1,1 ^bone");
        faulty(1, L + ";won a b ^hen");
        faulty(1, L + ";won a b ^1");
        faulty(1, L + ";won a b left ^right");
        faulty(1, L + ";for a b ^left");
        faulty(1, L + ";for a b^");
        faulty(1, L + ";piece ^a");
        faulty(1, L + ";piece left^");
        faulty(1, L + ";cheats a ^thumb");
        faulty(1, L + ";cheats a 1 ^fair 1");
        faulty(1, L + ";cheats a 1 thumb 1 ^;");
    }

    private static void untold() {
        faulty(2, L + ";won ^c b left");
        faulty(2, L + ";won a ^c left");
        faulty(2, L + ";won ^h b left");
        faulty(2, L + ";won a ^h left");
        faulty(2, L + ";for ^hen a 1");
        faulty(2, L + ";for a ^ab 1");
        faulty(2, L + ";cheats ^h 1");
        faulty(2, L + ";cheats ^aa 1");
        faulty(2, Texts.RULES + ";" + Texts.A + ";won a ^b left;" + Texts.B);
    }

    private static void again() {
        faulty(3, L + ";person ^a plain");
        faulty(3, L + ";person ^h plain");
        faulty(3, L + ";bone ^h hen");
        faulty(3, L + ";bone ^b hen");
        faulty(3, L + ";for a ^a 1");
        faulty(3, L + ";won b ^b left");
        faulty(3, L + ";for a b 1;for b a 1;for a ^b 2");
        faulty(3, L + ";cheats a 0 thumb 1 fair 1;cheats b 1 thumb 1 fair 1;cheats ^a 1");
        faulty(3, L + ";^kitchen bends");
        faulty(3, Texts.RULES + ";^kitchen");
    }

    private static void bounds() {
        faulty(4, "kitchen bends ^10");
        faulty(4, "kitchen bends 9 tough ^24");
        faulty(4, "kitchen bends 9 tough ^61");
        faulty(4, L + ";bone c hen dry ^25");
        faulty(4, L + ";bone c hen dry 24 left ^0");
        faulty(4, L + ";bone c hen dry 24 left 9,^10");
        faulty(4, L + ";bone c hen dry 24 left 9,1 right 1, ^00");
        faulty(4, L + ";person c cook force ^0");
        faulty(4, L + ";person c cook force ^41");
        faulty(4, L + ";person c cook force 40 hold ^0");
        faulty(4, L + ";person c cook force 40 hold ^7");
        faulty(4, L + ";piece right ^6");
        faulty(4, L + ";cheats a 99 thumb ^0");
        faulty(4, L + ";cheats a 99 thumb ^10");
        faulty(4, L + ";cheats a 99 thumb 9 fair ^0");
        faulty(4, L + ";cheats a 99 thumb 9 fair ^10");
    }

    private static String more(String line, int from, int count) {
        return Texts.more(line, from, count);
    }

    private static void many() {
        String bones = more("bone # hen dry 1 left 1,1 right 1,1", 10, 4);
        String people = more("person # plain force 1 hold 1 wish 1", 2, 4);
        CHECK.due("five bones", Check.tell(new LongerHalf(), L + bones), 5);
        faulty(5, L + bones + ";^bone");
        faulty(5, L + people + "; ^person");
        faulty(5, L + more("won a b left", 0, 12) + ";^won");
        faulty(5, L + more("piece left 1", 0, 4) + ";^piece");
        faulty(5, L + people + more("for # a 1", 1, 5) + more("for # b 1", 2, 4) + ";for a b 1;^for");
        CHECK.due("ten fors", Check.tell(new LongerHalf(),
                L + people + more("for # a 1", 1, 5) + more("for # b 1", 2, 4) + ";for a b 1"), 1);
        CHECK.due("six who cheat", Check.tell(new LongerHalf(),
                L + people + more("cheats # 1 thumb 1 fair 1", 0, 6)), 1);
        faulty(5, L + ";bone c hen dry 1 left 1,1,1,1,1,1, ^1");
        faulty(5, L + ";bone c hen dry 1 left 1,1,1,1,1,1 right 1,1,1,1,1,1,^1");
    }

    private static void lacks() {
        for (String word : "bone person for won piece cheats".split(" ")) {
            faulty(6, " ^" + word + " a");
        }
        faulty(6, L + ";bone c hen dry 1 left 1 ^right 1,1");
        faulty(6, L + ";bone c hen dry 1 left 1,1 right 1^;");
        faulty(6, L + ";bone c hen dry 1 left 1,1 right 1 ^");
        faulty(6, Texts.RULES + "^");
        faulty(6, Texts.RULES + ";" + Texts.A + ";" + Texts.B + "^");
        faulty(6, Texts.RULES + ";" + Texts.HEN + ";" + Texts.A + "  ^");
    }

    private static void leastNumber() {
        // a seventh thickness that is out of bounds, too
        faulty(4, L + ";bone c hen dry 1 left 1,1,1,1,1,1,^0");
        // an arm of one thickness, and no right arm
        faulty(1, L + ";bone c hen dry 1 left 1^;won");
        // the first from the left
        faulty(4, "kitchen bends ^10 tough 99 !");
        faulty(2, L + ";won ^x x up");
    }

    private static void sound() {
        LongerHalf x = new LongerHalf();
        String text = "  kitchen bends09tough60jerk99thumb00flaw99 ;bone hen hen dry 24 left 9 ,1 right 1,02, 3,4,5,6;"
                + "person abcdefgh child force40hold 6wish 99;person dry cheat force 1 hold 1 wish 0   ";
        CHECK.due("kitchen() with few blanks and many", Check.tell(x, text), 1);
        int[] sizes = {9, 60, 99, 0, 99, 1, 2, 0, 0, 0, 0, 0, 0, 0, -1};
        for (int what = 0; what < sizes.length; what++) {
            CHECK.due("size(" + what + ")", x.size(what), sizes[what]);
        }
        CHECK.due("thick(0, 1, 1)", x.thick(0, 1, 1), 2);
        LongerHalf names = new LongerHalf();
        CHECK.due("kitchen() with names almost alike", Check.tell(names, Texts.RULES + ";" + Texts.HEN.replace(" h ", " aab ")
                + more("person #b plain force 1 hold 1 wish 1", 0, 2) + more("person ba# plain force 1 hold 1 wish 1", 0, 1)
                + ";person abzzzzzz plain force 1 hold 1 wish 1;person bbzzzzzz plain force 1 hold 1 wish 1"
                + ";person az plain force 1 hold 1 wish 1;won az ab left;won bbzzzzzz abzzzzzz left;won az baa left"), 1);
        int[] won = {0, 0, 0, 0, 1, 2};
        for (int p = 0; p < won.length; p++) {
            CHECK.due("person(" + p + ", 5)", names.person(p, 5), won[p]);
        }
        LongerHalf y = new LongerHalf();
        Check.feed(y, Check.bytes(L + " and what is behind it !!!!"));
        CHECK.due("kitchen() of the first bytes", y.kitchen(L.length()), 1);
        CHECK.due("size(13)", y.size(13), 0);
    }
}
