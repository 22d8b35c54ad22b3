import java.lang.management.ManagementFactory;
import java.lang.reflect.Constructor;
import java.lang.reflect.Field;
import java.lang.reflect.Method;
import java.lang.reflect.Modifier;
import java.util.Arrays;
import java.util.Set;
import java.util.TreeSet;

/** The public face as compiled, and that calls make no objects. LanguageTest has what the source shows. */
public final class FaceTest {
    private static final Check CHECK = new Check("FaceTest");

    private static final String FACE = "int feed(int,int,int,int,int);int kitchen(int);int fault();int where();"
            + "int bone(int,int);int thick(int,int,int);int person(int,int);int strength(int,int,int,int);"
            + "int strain(int,int,int,int,int,int,int,int);int pulled(int,int,int,int,int,int);"
            + "int breaksAt(int,int,int,int,int,int);int flawed(int,int,int,int,int,int,int,int);"
            + "long odds(int,int,int,int,int,int,int,boolean);int best(int,int,int,int);int rests(int,int,int);"
            + "int rest(int,int,int);long sure(int,int,int,boolean);long curve(int,int,int,int,boolean);"
            + "int bestDay(int,int,int);long lawOdds(int,int,int,int,boolean);int fairest(int,int,int);int turnsOf(int);"
            + "int turnAt(int,int);long hand(int,boolean);long side(boolean);int known();int hens(int);"
            + "long thumbs(int,boolean);int let(int,int);int worth(int);int knob(int);int owners(int);"
            + "int wins(int,int,int);int spoilt(int,int,boolean);boolean dry(int);boolean boil(int);"
            + "int pull(int,int,int,int,int,int);boolean seed(int);boolean undo();int mark();boolean back(int);"
            + "int led(int);int size(int);int trouble()";

    public static void main(String[] args) {
        face();
        room();
        CHECK.end();
    }

    private static void is(String what, boolean holds) {
        CHECK.due(what, holds, true);
    }

    private static void face() {
        Set<String> found = new TreeSet<>();
        Set<String> names = new TreeSet<>();
        for (Method m : LongerHalf.class.getDeclaredMethods()) {
            if (Modifier.isPublic(m.getModifiers())) {
                StringBuilder text = new StringBuilder(m.getReturnType() + " " + m.getName() + "(");
                for (Class<?> type : m.getParameterTypes()) {
                    text.append(text.charAt(text.length() - 1) == '(' ? "" : ",").append(type);
                }
                found.add(text + ")");
                names.add(m.getName());
            }
        }
        Set<String> want = new TreeSet<>(Arrays.asList(FACE.split(";")));
        is("the face is " + found, found.equals(want));
        for (Method m : LongerHalf.class.getDeclaredMethods()) {
            if (!Modifier.isPublic(m.getModifiers())) {
                is(m + " is private", Modifier.isPrivate(m.getModifiers()));
                is(m + " bears no public one's name", !names.contains(m.getName()));
                is(m + " takes seven parameters at most", m.getParameterCount() <= 7);
            }
        }
        for (Field f : LongerHalf.class.getDeclaredFields()) {
            is(f + " is private, or NONE", Modifier.isPrivate(f.getModifiers()) || f.getName().equals("NONE"));
        }
        CHECK.due("NONE", LongerHalf.NONE, -1);
        Constructor<?>[] made = LongerHalf.class.getDeclaredConstructors();
        is("one public constructor", made.length == 1 && Modifier.isPublic(made[0].getModifiers())
                && made[0].getParameterCount() == 0);
        is("public and final", Modifier.isPublic(LongerHalf.class.getModifiers())
                && Modifier.isFinal(LongerHalf.class.getModifiers()));
    }

    /** No call makes objects: all of a run live in one room. */
    private static void room() {
        com.sun.management.ThreadMXBean threads = (com.sun.management.ThreadMXBean) ManagementFactory.getThreadMXBean();
        long id = Thread.currentThread().getId();
        LongerHalf x = Check.told(Texts.FULL);
        dearCalls(x);
        long before = threads.getThreadAllocatedBytes(id);
        for (int i = 0; i < 100; i++) {
            dearCalls(x);
        }
        long made = threads.getThreadAllocatedBytes(id) - before;
        is("objects made by calls: " + made + " bytes", made < 10000);
    }

    private static void dearCalls(LongerHalf x) {
        x.feed(0x6b697463, 0x68656e20, 0x62656e64, 0x73203220, 0x20202020);
        x.kitchen(20);
        x.rests(0, 0, 1);
        x.rest(0, 0, 1);
        x.sure(0, 0, 1, true);
        x.best(0, 0, 1, 1);
        x.bestDay(0, 0, 1);
        x.fairest(0, 0, 1);
        x.turnsOf(9);
        x.knob(0);
        x.owners(0);
        x.wins(0, 1, 200);
        x.spoilt(1, 200, true);
        x.dry(1);
        x.undo();
        x.mark();
        x.back(0);
        x.thumbs(3, true);
        x.hand(0, true);
        x.size(1);
    }
}
