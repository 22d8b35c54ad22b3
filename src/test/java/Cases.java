import java.lang.reflect.Method;
import java.lang.reflect.Modifier;
import java.util.Arrays;
import java.util.Comparator;
import java.util.function.Supplier;

/**
 * The tests of one promise: each static method of the test class that is not private and takes nothing is a case of
 * its own, so that none can be written and not run.
 */
final class Cases extends Check {
    private final Class<?> of;

    /** A call with one number that is to be tried at its edges. */
    interface Call {
        Object ask(LongerHalf x, int v);
    }

    /** A call about a PULL: bone, people with their holds, who moves. */
    interface PullCall {
        Object ask(LongerHalf x, int b, int p, int hp, int q, int hq, int moves);
    }

    /** A call about a bone and two people. */
    interface PairCall {
        Object ask(LongerHalf x, int b, int p, int q);
    }

    Cases(Class<?> of) {
        super(of.getSimpleName());
        this.of = of;
    }

    void run() throws ReflectiveOperationException {
        Method[] methods = of.getDeclaredMethods();
        Arrays.sort(methods, Comparator.comparing(Method::getName));
        int cases = 0;
        for (Method m : methods) {
            boolean hidden = Modifier.isPrivate(m.getModifiers()) || m.isSynthetic();
            if (!hidden && m.getParameterCount() == 0) {
                name = of.getSimpleName() + "." + m.getName();
                int before = asked;
                m.setAccessible(true);
                m.invoke(null);
                due("the case asks something", asked > before, true);
                cases++;
            }
        }
        name = of.getSimpleName();
        System.out.print(cases + " cases of ");
        end();
    }

    private static long number(Object answer) {
        if (answer instanceof Boolean) {
            return (Boolean) answer ? 1 : 0;
        }
        return ((Number) answer).longValue();
    }

    /** Refused by this number of TROUBLE, and nothing that the object shows has changed. */
    void refuses(LongerHalf x, int number, String call, Supplier<Object> asked) {
        String before = shown(x);
        Object got = asked.get();
        due(call, number(got), got instanceof Boolean ? 0 : LongerHalf.NONE);
        due("trouble() behind " + call, x.trouble(), number);
        due("where() behind " + call, x.where(), LongerHalf.NONE);
        due(call + " changes nothing", shown(x).equals(before), true);
    }

    /** Not refused: the answer, whatever it is, leaves TROUBLE 0. */
    void allows(LongerHalf x, String call, Supplier<Object> asked) {
        Object got = asked.get();
        due("trouble() behind " + call, x.trouble(), 0);
        due(call + " is not refused", got instanceof Boolean ? (Boolean) got : number(got) != LongerHalf.NONE, true);
    }

    /** From the least to the greatest it is not refused, one below and one above it is; each asked of a new object. */
    void edges(String text, int number, String call, int least, int most, Call asked) {
        for (int v : new int[] {least, most}) {
            LongerHalf x = told(text);
            allows(x, call + " of " + v, () -> asked.ask(x, v));
        }
        for (int v : new int[] {least - 1, most + 1, Integer.MIN_VALUE, Integer.MAX_VALUE}) {
            LongerHalf x = told(text);
            refuses(x, number, call + " of " + v, () -> asked.ask(x, v));
        }
    }

    /** Refused by 1 for a bone that isn't there, or people that aren't, or are alike. */
    void edgesOfPair(String call, PairCall asked) {
        edges(Texts.FULL, 1, call + " bone", 0, 2, (x, v) -> asked.ask(x, v, 0, 1));
        edges(Texts.FULL, 1, call + " p", 1, 3, (x, v) -> asked.ask(x, 0, v, 0));
        edges(Texts.FULL, 1, call + " q", 0, 2, (x, v) -> asked.ask(x, 0, 3, v));
        for (int p = 0; p < 4; p++) {
            int like = p;
            LongerHalf x = told(Texts.FULL);
            refuses(x, 1, call + " of one with himself", () -> asked.ask(x, 0, like, like));
        }
    }

    /** Refused by 1 as a pair is, then by 2 for holds and who moves. */
    void edgesOfPull(String call, PullCall asked) {
        edges(Texts.FULL, 1, call + " bone", 0, 2, (x, v) -> asked.ask(x, v, 0, 1, 1, 1, 2));
        edges(Texts.FULL, 1, call + " p", 1, 3, (x, v) -> asked.ask(x, 0, v, 1, 0, 1, 2));
        edges(Texts.FULL, 1, call + " q", 0, 2, (x, v) -> asked.ask(x, 0, 3, 1, v, 1, 2));
        edges(Texts.FULL, 2, call + " hp", 1, 2, (x, v) -> asked.ask(x, 0, 0, v, 1, 1, 2));
        edges(Texts.FULL, 2, call + " hq", 1, 3, (x, v) -> asked.ask(x, 0, 0, 1, 1, v, 2));
        edges(Texts.FULL, 2, call + " moves", 0, 3, (x, v) -> asked.ask(x, 0, 0, 1, 1, 1, v));
        LongerHalf x = told(Texts.FULL);
        refuses(x, 1, call + " of one with himself", () -> asked.ask(x, 0, 2, 1, 2, 1, 2));
        refuses(x, 1, call + " of no bone, no holds", () -> asked.ask(x, 3, 0, 0, 1, 0, 4));
        refuses(x, 1, call + " of like people, nobody such moves", () -> asked.ask(x, 0, 1, 1, 1, 1, 4));
    }

    /** Of a new object without a KITCHEN it is refused. */
    void needsKitchen(String call, Call asked) {
        LongerHalf x = new LongerHalf();
        refuses(x, 1, call + " without a KITCHEN", () -> asked.ask(x, 0));
    }

    /** All that an object shows of itself. */
    static String shown(LongerHalf x) {
        StringBuilder text = new StringBuilder();
        for (int what = 0; what <= 13; what++) {
            text.append(x.size(what)).append(' ');
        }
        for (int b = 0; b < x.size(5); b++) {
            for (int what = 0; what <= 4; what++) {
                text.append(x.bone(b, what)).append(' ');
            }
        }
        for (int p = 0; p < x.size(6); p++) {
            for (int what = 0; what <= 6; what++) {
                text.append(x.person(p, what)).append(' ');
            }
        }
        return text.append(x.fault()).toString();
    }

    /** A text without a FAULT. */
    LongerHalf sound(String text) {
        LongerHalf x = new LongerHalf();
        due("kitchen() of " + text, tell(x, text) > 0, true);
        due("fault() of " + text, x.fault(), 0);
        due("trouble() of " + text, x.trouble(), 0);
        return x;
    }
}
