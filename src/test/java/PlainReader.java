import java.util.ArrayList;
import java.util.HashMap;
import java.util.HashSet;
import java.util.List;
import java.util.Map;
import java.util.Set;
import java.util.regex.Matcher;
import java.util.regex.Pattern;

/** The texts read in another way than the class does it: all TOKENS first, then LINES by a table of forms. */
final class PlainReader {
    private static final Set<String> TOLD = Set.of("land", "cliff", "person", "move", "camp", "felt", "snow", "owns", "said",
        "heard", "or", "and", "not", "lost", "joint", "of", "by", "worth", "loud", "hour", "echoes");
    // By the LINE's first WORD, a sign for each TOKEN behind it; 'ask' tells what each one is.
    private static final Map<String, String> FORMS = Map.of("land", "WH", "cliff", "NXYDS", "person", "NXY", "move", "PtXY",
        "camp", "PXY", "felt", "XY", "snow", "ud");
    private static final Map<String, Integer> MOST = Map.of("cliff", 6, "person", 6, "move", 20, "felt", 8, "snow", 6);
    private static final Pattern RUN = Pattern.compile("[a-z0-9]+|[^ \n]");

    /** Kinds: w a WORD, # a NUMBER, a sign by itself, ! no TOKEN, $ the end. */
    private record Token(int at, char kind, String text) {
    }

    private final List<Token> tokens = new ArrayList<>();
    private final boolean whole;
    private int next;
    /** The kind of the FAULT, 0 without one, and its place. */
    int fault;
    int place;
    /** LINES, or ONES. */
    int many;

    private int w;
    private int h;
    private final List<String> cliffs = new ArrayList<>();
    private final List<String> persons;
    private final Set<String> onceTold = new HashSet<>();
    private final Map<String, Integer> tables = new HashMap<>();
    private int x;
    private String person = "";

    private PlainReader(String text, int mostBytes, List<String> persons) {
        this.persons = new ArrayList<>(persons);
        Matcher matcher = RUN.matcher(text);
        while (matcher.find() && matcher.start() < mostBytes) {
            tokens.add(new Token(matcher.start(), kindOf(matcher.group()), matcher.group()));
        }
        whole = text.length() <= mostBytes;
        tokens.add(new Token(Math.min(text.length(), mostBytes), '$', ""));
    }

    private static char kindOf(String run) {
        if (run.matches("[a-z]{1,7}")) {
            return 'w';
        }
        return run.matches("[0-9]{1,3}") ? '#' : run.matches("[;<=>()]") ? run.charAt(0) : '!';
    }

    static PlainReader valley(String text) {
        PlainReader reader = new PlainReader(text, 900, List.of());
        while (!reader.isDone() && reader.fault == 0) {
            reader.line();
            reader.many++;
        }
        return reader;
    }

    static PlainReader claims(String text, List<String> persons) {
        PlainReader reader = new PlainReader(text, 300, persons);
        while (!reader.isDone() && reader.fault == 0) {
            boolean verb = reader.now().kind == 'w' && Set.of("owns", "said", "heard").contains(reader.now().text);
            reader.pass(!verb ? 1 : reader.many == 30 ? 4 : 0);
            reader.pass(reader.ask('P', "owns"));
            reader.pass(reader.ask('s', "owns"));
            reader.pass(reader.now().kind == ';' ? 0 : 1);
            reader.many++;
        }
        return reader;
    }

    private Token now() {
        return tokens.get(Math.min(next, tokens.size() - 1));
    }

    private boolean isDone() {
        return whole && now().kind == '$';
    }

    /** Goes on behind this TOKEN, unless there is a FAULT already or now. */
    private void pass(int found) {
        if (fault == 0 && found != 0) {
            fault = found;
            place = now().at;
        }
        if (fault == 0) {
            next++;
        }
    }

    private void line() {
        String first = now().text;
        String form = FORMS.get(first);
        if (form == null) {
            pass(1);
            return;
        }
        int full = MOST.containsKey(first) && tables.getOrDefault(first, 0).equals(MOST.get(first)) ? 4 : 0;
        pass(first.equals("land") && w > 0 ? 3 : full);
        tables.merge(first, 1, Integer::sum);
        for (int i = 0; i < form.length() && fault == 0; i++) {
            pass(ask(form.charAt(i), first));
        }
        pass(now().kind == ';' ? 0 : 1);
    }

    private int ask(char sign, String first) {
        if (fault != 0) {
            return fault;
        }
        String text = now().text;
        if (sign == 'N' || sign == 'P') {
            return now().kind != 'w' || TOLD.contains(text) ? 1 : sign == 'N' ? name(text, first) : personNow(text, first);
        }
        return now().kind != '#' ? 1 : number(sign, Integer.parseInt(text), first);
    }

    private int name(String text, String first) {
        if (cliffs.contains(text) || persons.contains(text)) {
            return 3;
        }
        (first.equals("cliff") ? cliffs : persons).add(text);
        return 0;
    }

    private int personNow(String text, String first) {
        person = text;
        return !persons.contains(text) ? 3 : first.equals("camp") ? once("camp " + text) : 0;
    }

    private int once(String what) {
        return onceTold.add(what) ? 0 : 3;
    }

    private int number(char sign, int n, String first) {
        switch (sign) {
            case 'W':
                x = n;
                return within(n, 2, 10);
            case 'H':
                if (within(n, 2, 10) == 0) {
                    w = x;
                    h = n;
                }
                return within(n, 2, 10);
            case 'X':
                x = n;
                return n < w ? 0 : 2;
            case 'Y':
                boolean alone = first.equals("cliff") || first.equals("felt");
                return n >= h ? 2 : alone ? once(first + " " + x + " " + n) : 0;
            case 'D':
                return within(n, 1, 40);
            case 'S':
                return within(n, 1, 9);
            case 't':
                return within(n, 1, 200) + (within(n, 1, 200) == 0 ? once("move " + person + " " + n) : 0);
            case 'u':
                return within(n, 0, 200) + (within(n, 0, 200) == 0 ? once("snow " + n) : 0);
            case 'd':
                return within(n, 0, 9);
            default:
                return within(n, 0, 29);
        }
    }

    private static int within(int n, int low, int high) {
        return n < low || n > high ? 2 : 0;
    }

    /** What is open about a ONE stands on a stack: n for 'not', ( for a bracket. */
    static PlainReader sentence(String text, List<String> persons) {
        PlainReader reader = new PlainReader(text, 200, persons);
        StringBuilder open = new StringBuilder();
        boolean wanted = true;
        while (reader.fault == 0 && (wanted || !reader.isDone() || open.length() > 0)) {
            if (wanted) {
                wanted = reader.beginOne(open);
            } else if (reader.now().kind == ')' && open.length() > 0) {
                reader.pass(0);
                open.setLength(open.length() - 1);
            } else {
                boolean joins = reader.now().text.equals("and") || reader.now().text.equals("or");
                reader.pass(joins ? 0 : 1);
                wanted = true;
                continue;
            }
            while (!wanted && open.length() > 0 && open.charAt(open.length() - 1) == 'n') {
                open.setLength(open.length() - 1);
            }
        }
        return reader;
    }

    /** Whether another ONE has to begin behind this TOKEN. */
    private boolean beginOne(StringBuilder open) {
        Token token = now();
        boolean begins = token.kind == '(' || Set.of("not", "lost", "joint", "of", "by", "worth", "loud", "hour", "echoes")
            .contains(token.text);
        pass(!begins ? 1 : many == 20 || open.length() == 8 ? 4 : 0);
        many++;
        switch (token.text) {
            case "not":
            case "(":
                open.append(token.text.charAt(0));
                return true;
            case "lost":
            case "joint":
                return false;
            case "of":
            case "by":
                pass(ask('P', ""));
                return false;
            default:
                pass("<=>".indexOf(now().kind) >= 0 ? 0 : 1);
                pass(fault == 0 && now().kind == '#' ? 0 : Math.max(1, fault));
                return false;
        }
    }
}
