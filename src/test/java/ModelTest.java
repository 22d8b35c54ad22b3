import java.lang.reflect.InvocationTargetException;
import java.lang.reflect.Method;
import java.lang.reflect.Modifier;
import java.util.ArrayList;
import java.util.Arrays;
import java.util.Collections;
import java.util.Comparator;
import java.util.List;
import java.util.NoSuchElementException;
import java.util.Random;

/** Runs of calls, drawn from fixed seeds, answered alike by the program and by the slow model; all promises. */
public final class ModelTest {
    private static final int RUNS = 400;
    private static final int CALLS = 300;
    private static final int TEXTS = 20000;

    private static final Check CHECK = new Check("ModelTest");
    private static final String[] NAMES = {"a", "b", "hen", "dry", "thumb", "fair", "force", "abcdefgh", "z", "left1",
        "hold", "x", "wish", "plain"};
    private static final String VOCABULARY = "kitchen bone person for won piece cheats left right hen goose boiled plain cook "
            + "child cheat dry force hold wish bends tough jerk thumb flaw fair ; ; , 0 1 5 6 7 9 10 24 25 40 41 60 61 99 "
            + "100 05 a b zz abcdefgh abcdefghi A ! \t";

    private final Random random;

    private ModelTest(long seed) {
        random = new Random(seed);
    }

    public static void main(String[] args) throws ReflectiveOperationException {
        for (int run = 0; run < RUNS; run++) {
            new ModelTest(run).run(run);
        }
        ModelTest texts = new ModelTest(4711);
        for (int i = 0; i < TEXTS; i++) {
            texts.compareText(texts.spoil(texts.text(false)));
        }
        CHECK.end();
    }

    private int of(int least, int most) {
        return least + random.nextInt(most - least + 1);
    }

    private boolean in(int hundred) {
        return random.nextInt(100) < hundred;
    }

    // ---- texts

    private String arm(boolean brittle) {
        StringBuilder text = new StringBuilder();
        int places = of(2, 6);
        for (int i = 0; i < places; i++) {
            text.append(i == 0 ? "" : in(80) ? "," : " , ").append(of(1, brittle ? 3 : 9));
        }
        return text.toString();
    }

    private String side() {
        return in(50) ? "left" : "right";
    }

    /** A sound text of all sorts of LINES, 1,000 bytes at most. */
    private String text(boolean brittle) {
        List<String> names = new ArrayList<>(Arrays.asList(NAMES));
        names.remove("left1");
        Collections.shuffle(names, random);
        int bones = of(1, 5);
        int people = of(2, 6);
        List<String> lines = new ArrayList<>();
        lines.add("kitchen bends " + of(0, brittle ? 2 : 9) + " tough " + of(25, brittle ? 30 : 60) + " jerk "
                + of(0, brittle ? 20 : 99) + " thumb " + of(0, brittle ? 9 : 99) + " flaw " + (in(20) ? 0 : of(0, 99)));
        for (int i = 0; i < bones; i++) {
            String kind = in(70) ? "hen" : in(50) ? "goose" : "boiled";
            lines.add("bone " + names.get(i) + " " + kind + " dry " + of(brittle ? 15 : 0, 24) + " left " + arm(brittle)
                    + " right " + arm(brittle));
        }
        String[] who = new String[people];
        for (int i = 0; i < people; i++) {
            who[i] = names.get(bones + i);
            String kind = in(40) ? "plain" : in(33) ? "cook" : in(50) ? "child" : "cheat";
            lines.add("person " + who[i] + " " + kind + " force " + of(1, brittle ? 4 : 40) + " hold " + of(1, 6) + " wish "
                    + of(0, in(50) ? 3 : 99));
        }
        tales(lines, who);
        StringBuilder text = new StringBuilder(lines.get(0));
        for (String line : lines.subList(1, lines.size())) {
            if (text.length() + line.length() + 3 <= 1000) {
                text.append(in(80) ? ";" : " ; ").append(line);
            }
        }
        return text.toString();
    }

    private void tales(List<String> lines, String[] who) {
        List<String> pairs = new ArrayList<>();
        for (String one : who) {
            for (String other : who) {
                if (!one.equals(other)) {
                    pairs.add(one + " " + other);
                }
            }
        }
        Collections.shuffle(pairs, random);
        List<String> tales = new ArrayList<>();
        int fors = Math.min(pairs.size(), of(0, 10));
        for (int i = 0; i < fors; i++) {
            tales.add("for " + pairs.get(i) + " " + of(0, in(50) ? 3 : 99));
        }
        int won = of(0, 12);
        boolean same = in(40);
        for (int i = 0; i < won; i++) {
            tales.add("won " + pairs.get(same && in(90) ? 0 : random.nextInt(pairs.size())) + " " + side());
        }
        int pieces = of(0, 4);
        for (int i = 0; i < pieces; i++) {
            tales.add("piece " + side() + " " + (in(70) ? of(0, 2) : of(0, 5)));
        }
        for (String one : who) {
            if (in(50)) {
                tales.add("cheats " + one + " " + of(0, 99) + " thumb " + of(1, 9) + " fair " + of(1, 9));
            }
        }
        Collections.shuffle(tales, random);
        lines.addAll(tales);
    }

    private String spoil(String sound) {
        List<String> tokens = new ArrayList<>(new TextModel(sound).tokens);
        String[] words = VOCABULARY.split(" ");
        int times = in(80) ? 1 : of(2, 3);
        for (int i = 0; i < times; i++) {
            int at = random.nextInt(tokens.size());
            int how = random.nextInt(7);
            if (how == 0 && tokens.size() > 1) {
                tokens.remove(at);
            } else if (how == 1) {
                tokens.add(at, tokens.get(random.nextInt(tokens.size())));
            } else if (how == 2) {
                tokens.add(at, words[random.nextInt(words.length)]);
            } else if (how == 3) {
                tokens.set(at, words[random.nextInt(words.length)]);
            } else if (how == 4) {
                tokens.set(at, tokens.get(random.nextInt(tokens.size())));
            } else if (how == 5) {
                Collections.swap(tokens, at, random.nextInt(tokens.size()));
            } else {
                repeatLine(tokens);
            }
        }
        String text = String.join(in(50) ? " " : "  ", tokens);
        if (in(20)) {
            text = text.substring(0, random.nextInt(text.length() + 1));
        }
        return text.length() > 1000 ? text.substring(0, 1000) : text;
    }

    /** The same LINE behind the last one, perhaps often: too many, or told again. */
    private void repeatLine(List<String> tokens) {
        String[] lines = String.join(" ", tokens).split(";");
        String line = lines[random.nextInt(lines.length)].trim();
        int times = in(50) ? 1 : 13;
        for (int i = 0; i < times; i++) {
            tokens.add(";");
            tokens.addAll(Arrays.asList(line.split(" +")));
        }
        tokens.removeIf(String::isEmpty);
    }

    private void compareText(String text) {
        LongerHalf x = new LongerHalf();
        TextModel model = new TextModel(text);
        int bones = Check.tell(x, text);
        CHECK.due("fault() of " + text, x.fault(), model.fault);
        CHECK.due("where() of " + text, x.where(), model.fault == 0 ? -1 : model.place);
        CHECK.due("kitchen() of " + text, bones >= 0, model.fault == 0);
    }

    // ---- calls

    private void run(int run) throws ReflectiveOperationException {
        LongerHalf x = new LongerHalf();
        FaceModel model = new FaceModel();
        List<Method> face = new ArrayList<>();
        for (Method m : LongerHalf.class.getDeclaredMethods()) {
            if (Modifier.isPublic(m.getModifiers()) && !m.getName().equals("kitchen") && !m.getName().equals("feed")) {
                face.add(m);
            }
        }
        face.sort(Comparator.comparing(Method::getName));
        Method feed = LongerHalf.class.getMethod("feed", int.class, int.class, int.class, int.class, int.class);
        Method kitchen = LongerHalf.class.getMethod("kitchen", int.class);
        for (int i = 0; i < CALLS; i++) {
            boolean tells = i == 10 || in(1);
            if (tells) {
                String text = in(70) || i == 10 ? text(in(70)) : spoil(text(true));
                byte[] bytes = Check.bytes(text);
                for (int at = 0; at < bytes.length; at += 20) {
                    compare(run, x, model, feed, row(bytes, at));
                }
                compare(run, x, model, kitchen, new long[] {text.length()});
            }
            Method m = in(1) ? kitchen : in(1) ? feed : face.get(random.nextInt(face.size()));
            if (!m.getName().equals("rests") && !m.getName().equals("rest") || in(30)) {
                compare(run, x, model, m, arguments(m, model.k));
            }
            compare(run, x, model, LongerHalf.class.getMethod("trouble"), new long[0]);
        }
    }

    private static long[] row(byte[] bytes, int at) {
        byte[] twenty = Arrays.copyOfRange(Arrays.copyOf(bytes, bytes.length + 20), at, at + 20);
        long[] row = new long[5];
        for (int i = 0; i < 20; i++) {
            row[i / 4] = (int) (row[i / 4] << 8 | twenty[i] & 255);
        }
        return row;
    }

    private void compare(int run, LongerHalf x, FaceModel model, Method m, long[] a) throws ReflectiveOperationException {
        Object[] given = new Object[a.length];
        for (int i = 0; i < a.length; i++) {
            given[i] = m.getParameterTypes()[i] == boolean.class ? (Object) (a[i] == 1) : (Object) (int) a[i];
        }
        long got;
        try {
            Object answer = m.invoke(x, given);
            got = answer instanceof Boolean ? (Boolean) answer ? 1 : 0 : ((Number) answer).longValue();
        } catch (InvocationTargetException e) {
            if (!(e.getCause() instanceof NoSuchElementException)) {
                throw e;
            }
            got = FaceModel.THROWS;
        }
        long want = model.call(m.getName(), a, m.getReturnType() == boolean.class);
        CHECK.due("run " + run + ": " + m.getName() + Arrays.toString(a), got, want);
    }

    /** Which arguments a call takes: see argument(). */
    private static String kinds(String name) {
        switch (name) {
            case "bone":
                return "b5";
            case "thick":
                return "bal";
            case "person":
                return "p7";
            case "strength":
                return "balp";
            case "strain":
                return "balphqhm";
            case "pulled":
            case "breaksAt":
            case "pull":
                return "bphqhm";
            case "flawed":
                return "bphqhmal";
            case "odds":
                return "bphqhm4z";
            case "best":
                return "bpqh";
            case "rests":
            case "rest":
            case "bestDay":
            case "fairest":
                return "bpq";
            case "sure":
                return "bpqz";
            case "curve":
                return "bpqdz";
            case "lawOdds":
                return "4bpqz";
            case "turnsOf":
                return "w";
            case "turnAt":
                return "w6";
            case "hand":
            case "thumbs":
                return "pz";
            case "side":
                return "z";
            case "hens":
                return "n";
            case "let":
                return "pq";
            case "worth":
                return "p";
            case "knob":
            case "owners":
                return "3";
            case "wins":
                return "psy";
            case "spoilt":
                return "syz";
            case "dry":
                return "D";
            case "boil":
                return "b";
            case "seed":
                return "s";
            case "back":
                return "3";
            case "led":
                return "5";
            case "size":
                return "X";
            case "kitchen":
                return "K";
            case "feed":
                return "FFFFF";
            default:
                return "";
        }
    }

    private long[] arguments(Method m, KitchenModel k) {
        String kinds = kinds(m.getName());
        if (kinds.length() != m.getParameterCount()) {
            throw new IllegalStateException(m.getName());
        }
        int bones = k == null ? 1 : k.bones.size();
        int people = k == null ? 2 : k.people.size();
        int bone = random.nextInt(bones);
        int p = random.nextInt(people);
        int q = (p + of(1, people - 1)) % people;
        int[] arms = k == null ? new int[] {2, 2} : new int[] {k.bones.get(bone).left().length, k.bones.get(bone).right().length};
        long[] a = new long[kinds.length()];
        int holds = m.getName().equals("best") ? 1 : 0;
        int arm = random.nextInt(2);
        for (int i = 0; i < a.length; i++) {
            char kind = kinds.charAt(i);
            if (in(4) && kind != 'z') {
                a[i] = in(80) ? of(-2, 8) : in(50) ? Integer.MIN_VALUE : Integer.MAX_VALUE;
            } else if (kind == 'h') {
                a[i] = of(1, arms[Math.min(1, holds++)]);
            } else if (kind == 'l') {
                a[i] = of(0, arms[arm] - 1);
            } else {
                a[i] = kind == 'b' ? bone : kind == 'p' ? p : kind == 'q' ? q : kind == 'a' ? arm : argument(kind);
            }
        }
        return a;
    }

    private int argument(char kind) {
        switch (kind) {
            case 'm':
                return of(0, 3);
            case 'z':
                return of(0, 1);
            case 'd':
                return in(5) ? 25 : of(0, 24);
            case 'D':
                return in(80) ? of(1, 3) : of(0, 25);
            case 'w':
                return of(1, 9);
            case 'n':
                return in(50) ? of(1, 70) : of(-1, 1000010);
            case 's':
                return of(-1, 65537);
            case 'y':
                return in(10) ? of(195, 203) : of(0, 30);
            case 'X':
                return of(-1, 14);
            case 'K':
                return of(-1, 100);
            case 'F':
                return random.nextInt();
            default:
                return of(0, kind - '0' - 1);
        }
    }
}
