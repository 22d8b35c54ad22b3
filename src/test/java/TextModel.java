import java.util.ArrayList;
import java.util.HashMap;
import java.util.HashSet;
import java.util.List;
import java.util.Map;
import java.util.Set;
import java.util.regex.Matcher;
import java.util.regex.Pattern;

/**
 * The FAULT of a text, found another way than the program does: FORM by a regular expression over the
 * TOKENS, all other FAULTS gathered in one list, of which the first place and its least number are taken.
 */
final class TextModel {
    private static final String RESERVED = "kitchen=K bone=B person=P for=F won=W piece=I cheats=C left=L right=R";
    private static final String PLAIN = "bends=b tough=t jerk=j thumb=m flaw=f dry=d hen=h goose=g boiled=o plain=p "
            + "cook=c child=i cheat=x force=r hold=l wish=s fair=a";
    private static final Map<String, Character> SIGNS = new HashMap<>();
    private static final Pattern TOKENS = Pattern.compile("[a-z]+|[0-9]+|[;,]|[^ ]", Pattern.DOTALL);
    private static final Pattern KITCHEN;

    static {
        for (String pair : (RESERVED + " " + PLAIN).split(" ")) {
            SIGNS.put(pair.substring(0, pair.length() - 2), pair.charAt(pair.length() - 1));
        }
        String name = "[btjmfdhgopcixrlsan]";
        String line = "(?:Kb0t0j0m0f0|BN[hgo]d0L0(?:,0)*R0(?:,0)*|PN[pcix]r0l0s0|FNN0|WNN[LR]|I[LR]0|CN0m0a0)";
        line = line.replace("N", name);
        KITCHEN = Pattern.compile(line + "(?:;" + line + ")*");
    }

    final List<String> tokens = new ArrayList<>();
    final List<Integer> places = new ArrayList<>();
    /** Up to the first TOKEN that is none, or with which no KITCHEN goes on. */
    final StringBuilder signs = new StringBuilder();
    int fault;
    int place = -1;
    private final int end;
    private final Map<String, Character> sorts = new HashMap<>();
    private final Set<String> pairs = new HashSet<>();
    private final Set<String> cheats = new HashSet<>();
    private final Map<Character, Integer> counts = new HashMap<>();

    TextModel(String text) {
        end = text.length();
        Matcher m = TOKENS.matcher(text);
        boolean goesOn = true;
        while (goesOn && m.find()) {
            char sign = signOf(m.group());
            goesOn = sign != '!' && viable(signs.toString() + sign);
            tokens.add(m.group());
            places.add(m.start());
            if (goesOn) {
                signs.append(sign);
            } else {
                met(m.start(), 1);
            }
        }
        boolean whole = goesOn && KITCHEN.matcher(signs).matches();
        if (goesOn && !whole) {
            met(end, 1);
        }
        lines();
        if (whole && (counts.getOrDefault('B', 0) < 1 || counts.getOrDefault('P', 0) < 2)) {
            met(end, 6);
        }
    }

    private static char signOf(String token) {
        if (token.matches("[a-z]{1,8}")) {
            return SIGNS.getOrDefault(token, 'n');
        }
        return token.matches("[0-9]{1,2}") ? '0' : token.matches("[;,]") ? token.charAt(0) : '!';
    }

    private static boolean viable(String prefix) {
        Matcher m = KITCHEN.matcher(prefix);
        return m.matches() || m.hitEnd();
    }

    private void met(int at, int number) {
        if (fault == 0 || at < place || at == place && number < fault) {
            fault = number;
            place = at;
        }
    }

    private void lines() {
        int from = 0;
        for (int i = 0; i <= signs.length(); i++) {
            if (i == signs.length() || signs.charAt(i) == ';') {
                if (i > from) {
                    line(from, i);
                }
                from = i + 1;
            }
        }
    }

    private void line(int from, int to) {
        char sort = signs.charAt(from);
        int told = counts.merge(sort, 1, Integer::sum);
        if (from > 0 ? sort == 'K' : sort != 'K') {
            met(places.get(from), sort == 'K' ? 3 : 6);
        }
        if (sort != 'K' && sort != 'C' && told > most(sort)) {
            met(places.get(from), 5);
        }
        if (sort == 'B' || sort == 'P') {
            tell(from + 1, to, sort);
        } else if (sort == 'F' || sort == 'W' || sort == 'C') {
            use(from + 1, to);
        }
        if (sort == 'F' || sort == 'W') {
            use(from + 2, to);
            second(from, to, sort);
        }
        if (sort == 'C' && from + 1 < to && !cheats.add(tokens.get(from + 1))) {
            met(places.get(from + 1), 3);
        }
        bounds(from, to, sort);
        if (sort == 'B') {
            arms(from, to);
        }
    }

    private static int most(char sort) {
        return sort == 'B' ? 5 : sort == 'P' ? 6 : sort == 'F' ? 10 : sort == 'W' ? 12 : 4;
    }

    private void tell(int i, int to, char sort) {
        if (i < to && sorts.putIfAbsent(tokens.get(i), sort) != null) {
            met(places.get(i), 3);
        }
    }

    private void use(int i, int to) {
        if (i < to && sorts.getOrDefault(tokens.get(i), '-') != 'P') {
            met(places.get(i), 2);
        }
    }

    private void second(int from, int to, char sort) {
        if (from + 2 < to) {
            String one = tokens.get(from + 1);
            String other = tokens.get(from + 2);
            if (one.equals(other) || sort == 'F' && !pairs.add(one + " " + other)) {
                met(places.get(from + 2), 3);
            }
        }
    }

    private void bounds(int from, int to, char sort) {
        for (int i = from + 1; i < to; i++) {
            if (signs.charAt(i) == '0') {
                int value = Integer.parseInt(tokens.get(i));
                // behind a PERSON who cheats, whatever his NAME, stands how likely
                int[] b = bound(sort, sort == 'C' && i == from + 2 ? 'n' : signs.charAt(i - 1));
                if (value < b[0] || value > b[1]) {
                    met(places.get(i), 4);
                }
            }
        }
    }

    private static int[] bound(char sort, char ahead) {
        String key = "" + sort + ahead;
        switch (key) {
            case "Kb":
                return new int[] {0, 9};
            case "Kt":
                return new int[] {25, 60};
            case "Bd":
                return new int[] {0, 24};
            case "BL":
            case "BR":
            case "B,":
                return new int[] {1, 9};
            case "Pr":
                return new int[] {1, 40};
            case "Pl":
                return new int[] {1, 6};
            case "IL":
            case "IR":
                return new int[] {0, 5};
            default:
                return sort == 'C' && (ahead == 'm' || ahead == 'a') ? new int[] {1, 9} : new int[] {0, 99};
        }
    }

    private void arms(int from, int to) {
        int count = 0;
        for (int i = from; i <= to; i++) {
            char sign = i < to ? signs.charAt(i) : ';';
            boolean ends = sign == 'R' || i == to && (i == signs.length() || signs.charAt(i) == ';');
            if (ends && count == 1) {
                met(i < places.size() ? places.get(i) : end, 6);
            }
            if (sign == 'L' || sign == 'R') {
                count = 0;
            } else if (sign == '0' && signs.charAt(i - 1) != 'd') {
                count++;
                if (count > 6) {
                    met(places.get(i), 5);
                }
            }
        }
    }
}
