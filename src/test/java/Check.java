import java.nio.charset.StandardCharsets;
import java.util.Arrays;

/** What all tests use: counting answers that are not as due, and telling a text to a LongerHalf. */
class Check {
    /** Of which test, or of which case of it, the answers are. */
    String name;
    int asked;
    private int wrong;

    Check(String name) {
        this.name = name;
    }

    void due(String call, long got, long want) {
        asked++;
        if (got != want) {
            wrong++;
            System.out.println(name + ": " + call + " answered " + got + ", due is " + want);
        }
    }

    void due(String call, boolean got, boolean want) {
        due(call, got ? 1 : 0, want ? 1 : 0);
    }

    /** The call was refused by this number of TROUBLE. */
    void refused(LongerHalf x, String call, long got, int number) {
        due(call, got, LongerHalf.NONE);
        due("trouble() behind " + call, x.trouble(), number);
    }

    void refused(LongerHalf x, String call, boolean got, int number) {
        due(call, got, false);
        due("trouble() behind " + call, x.trouble(), number);
    }

    /** A fraction: its upper WHOLE, then its lower. */
    void part(String call, long gotUp, long gotLow, long up, long low) {
        due(call + " upper", gotUp, up);
        due(call + " lower", gotLow, low);
    }

    /** A text with a FAULT, whose place is where ^ stands in it. */
    void faulty(int number, String marked) {
        int place = marked.indexOf('^');
        String text = marked.substring(0, place) + marked.substring(place + 1);
        LongerHalf x = new LongerHalf();
        refused(x, marked, tell(x, text), 4);
        due("fault() of " + marked, x.fault(), number);
        due("where() of " + marked, x.where(), place);
    }

    void end() {
        System.out.println(name + ": " + asked + " answers, " + wrong + " not as due");
        if (wrong != 0 || asked == 0) {
            System.exit(1);
        }
    }

    static void feed(LongerHalf x, byte[] text) {
        byte[] filled = Arrays.copyOf(text, (text.length + 19) / 20 * 20);
        Arrays.fill(filled, text.length, filled.length, (byte) ' ');
        for (int i = 0; i < filled.length; i += 20) {
            x.feed(word(filled, i), word(filled, i + 4), word(filled, i + 8), word(filled, i + 12), word(filled, i + 16));
        }
    }

    private static int word(byte[] b, int i) {
        return (b[i] & 255) << 24 | (b[i + 1] & 255) << 16 | (b[i + 2] & 255) << 8 | b[i + 3] & 255;
    }

    static byte[] bytes(String text) {
        return text.getBytes(StandardCharsets.ISO_8859_1);
    }

    /** Feeds a text and makes it the KITCHEN: what kitchen() answered. */
    static int tell(LongerHalf x, String text) {
        feed(x, bytes(text));
        return x.kitchen(text.length());
    }

    static LongerHalf told(String text) {
        LongerHalf x = new LongerHalf();
        int bones = tell(x, text);
        if (bones < 1) {
            throw new IllegalArgumentException("fault " + x.fault() + " at " + x.where() + " of " + text);
        }
        return x;
    }
}
