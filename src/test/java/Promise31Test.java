/** Promise 31: worth. */
public final class Promise31Test {
    private static final Cases C = new Cases(Promise31Test.class);

    public static void main(String[] args) throws ReflectiveOperationException {
        C.run();
    }

    static void whichPerson() {
        C.edges(Texts.FULL, 1, "worth()", 0, 3, (x, v) -> x.worth(v));
        C.edges(Texts.people(6), 1, "worth() of six", 0, 5, (x, v) -> x.worth(v));
    }

    static void theLeast() {
        LongerHalf x = Check.told(Texts.brittle("1,1", "1,1"));
        C.due("nothing", x.worth(0), 0);
        C.due("trouble()", x.trouble(), 0);
        C.due("a for of 0", Check.told(Texts.brittle("1,1", "1,1") + ";for a b 0").worth(0), 0);
    }

    static void theGreatest() {
        String text = Texts.people(6).replace("a plain force 1 hold 1 wish 1", "a plain force 1 hold 1 wish 99");
        LongerHalf x = Check.told(text + Texts.more("for a # 99", 1, 5) + Texts.more("for # a 99", 1, 5));
        C.due("six times 99", x.worth(0), 594);
        C.due("one for another", x.worth(5), 100);
    }

    static void withoutFors() {
        C.due("the wish", Check.told(Texts.LEAST + ";for b a 7").worth(0), 1);
    }

    static void actsChangeNothingOfIt() {
        LongerHalf x = Check.told(Texts.FULL);
        x.pull(0, 0, 2, 1, 3, 2);
        C.due("worth(0)", x.worth(0), 9);
    }
}
