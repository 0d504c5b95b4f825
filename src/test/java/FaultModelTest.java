import java.util.ArrayList;
import java.util.List;
import java.util.Random;

/**
 * Texts drawn by fixed seeds, most of them damaged at one place: promises 4, 5, 29 and 38 answer with the place and the
 * kind of the FAULT that PlainReader finds, LINES or ONES without one, and a FAULT leaves all but the tape as it was.
 */
public final class FaultModelTest {
    private static final String VALLEY = "land 5 5;cliff n 0 0 2 5;cliff m 1 0 2 5;person a 1 1;person b 2 2;";
    private static final List<String> PERSONS = List.of("a", "b");
    private static final String[] NAMES = {"a", "b", "n", "m", "q", "abcdefg", "zyxwvut", "lan", "lands", "nott", "o", "hear"};
    private static final String[] ODD = {"abcdefgh", "a1", "1a", "0001", "1000", "#", "A", "\0", "\t", "\u00ff", ".", "-1", "{",
        "\r", "aaaaaaaaaaaaaaaaaaaa", "99999999999", "`", "/", ":", "'"};
    private static final String[] WORDS = {"land", "cliff", "person", "move", "camp", "felt", "snow", "owns", "said", "heard",
        "or", "and", "not", "lost", "joint", "of", "by", "worth", "loud", "hour", "echoes"};
    private static final String[] NUMBERS = {"0", "1", "2", "3", "4", "5", "6", "8", "9", "10", "11", "28", "29", "30", "39",
        "40", "41", "199", "200", "201", "999", "00", "007", "010", "256"};
    private static final String[] SIGNS = {";", "<", "=", ">", "(", ")"};

    private final Random random = new Random(20260);
    private final int[] kinds = new int[5];
    private EchoVale vale;
    private int calls;

    public static void main(String[] args) {
        FaultModelTest test = new FaultModelTest();
        for (int i = 0; i < 30000; i++) {
            test.valley();
        }
        test.enough("valley()");
        for (int i = 0; i < 15000; i++) {
            test.claims();
        }
        test.enough("claims()");
        for (int i = 0; i < 30000; i++) {
            test.sentence();
        }
        test.enough("sentence()");
        Check.finish("FaultModelTest");
    }

    // Each kind of FAULT has to be among what was drawn, and texts without one.
    private void enough(String what) {
        for (int kind = 0; kind < kinds.length; kind++) {
            boolean canBe = kind != 2 || !what.equals("sentence()");
            Check.due(what + " with FAULT " + kind + " was drawn " + kinds[kind] + " times", kinds[kind] > 100, canBe);
            kinds[kind] = 0;
        }
    }

    private int upTo(int n) {
        return random.nextInt(n);
    }

    private String one(String... of) {
        return of[upTo(of.length)];
    }

    private String number(int low, int high) {
        int kind = upTo(12);
        if (kind == 0) {
            return String.valueOf(low);
        }
        return kind == 1 ? String.valueOf(high) : String.valueOf(low + upTo(high - low + 1));
    }

    /** An object for one more text: one is used for at most 512 calls. */
    private EchoVale ready() {
        calls += 60;
        if (vale == null || calls > 500) {
            vale = Check.vale(VALLEY);
            calls = 100;
        }
        return vale;
    }

    private void compare(String what, String text, PlainReader wanted, int got, int good, int less) {
        Check.due(what + " of '" + text + "'", got, wanted.fault == 0 ? good : less - wanted.place);
        Check.due("P5 fault of " + what + " of '" + text + "'", vale.fault(), wanted.fault);
        Check.due("the tape behind '" + text + "'", vale.count(8), 0);
        kinds[wanted.fault]++;
    }

    private void valley() {
        List<String> tokens = valleyTokens();
        String text = joined(damaged(tokens, 900), 900);
        PlainReader wanted = PlainReader.valley(text);
        ready();
        int width = vale.count(0);
        int cliffs = vale.count(2);
        compare("P4 valley", text, wanted, Check.valley(vale, text), wanted.many, -1);
        if (wanted.fault != 0) {
            Check.due("P4 width stays", vale.count(0), width);
            Check.due("P4 cliffs stay", vale.count(2), cliffs);
        }
    }

    private List<String> valleyTokens() {
        List<String> tokens = new ArrayList<>();
        int w = 2 + upTo(9);
        int h = 2 + upTo(9);
        if (upTo(10) > 0) {
            tokens.addAll(List.of("land", "" + w, "" + h, ";"));
        }
        // Some texts are of one sort of LINE mostly, so that its table gets full.
        String most = one(WORDS[1], WORDS[2], WORDS[3], WORDS[4], WORDS[5], WORDS[6]);
        int lines = upTo(3) == 0 ? upTo(40) : upTo(12);
        List<String> names = new ArrayList<>(List.of(NAMES));
        List<String> persons = new ArrayList<>();
        for (int i = 0; i < lines; i++) {
            String first = upTo(2) == 0 && i > 1 ? most : WORDS[1 + upTo(6)];
            String[] cell = {number(0, w - 1), number(0, h - 1)};
            tokens.add(first);
            switch (first) {
                case "cliff":
                case "person":
                    String name = names.isEmpty() ? one(NAMES) : names.remove(upTo(names.size()));
                    tokens.addAll(List.of(name, cell[0], cell[1]));
                    if (first.equals("cliff")) {
                        tokens.addAll(List.of(number(1, 40), number(1, 9)));
                    } else {
                        persons.add(name);
                    }
                    break;
                case "move":
                case "camp":
                    tokens.add(persons.isEmpty() ? "q" : persons.get(upTo(persons.size())));
                    if (first.equals("move")) {
                        tokens.add(number(1, 200));
                    }
                    tokens.addAll(List.of(cell));
                    break;
                case "felt":
                    tokens.addAll(List.of(cell));
                    break;
                default:
                    tokens.addAll(List.of(number(0, 200), number(0, 9)));
            }
            tokens.add(";");
        }
        return tokens;
    }

    private void claims() {
        List<String> tokens = new ArrayList<>();
        boolean many = upTo(3) == 0;
        int lines = many ? 28 + upTo(5) : upTo(8);
        for (int i = 0; i < lines; i++) {
            String verb = many ? one("owns", "said") : one("owns", "said", "heard");
            tokens.addAll(List.of(verb, one("a", "b"), many ? "" + upTo(10) : number(0, 29), ";"));
        }
        String text = joined(damaged(tokens, 300), 300);
        PlainReader wanted = PlainReader.claims(text, PERSONS);
        vale = null;
        ready();
        // Nothing is said: the first LINE is not so.
        compare("P29 claims", text, wanted, Check.claims(vale, text), wanted.many > 0 ? 0 : EchoVale.NONE, -2);
    }

    private void sentence() {
        List<String> tokens = new ArrayList<>();
        condition(tokens, upTo(3) == 0 ? 10 : 4);
        String text = joined(damaged(tokens, 200), 200);
        PlainReader wanted = PlainReader.sentence(text, PERSONS);
        vale = calls > 400 ? null : vale;
        if (vale == null || vale.count(3) != 2 || vale.count(2) != 2) {
            vale = null;
        }
        boolean fresh = vale == null;
        ready();
        int said = vale.said(EchoVale.NONE);
        Check.due("no SENTENCE of a new VALLEY", !fresh || said == EchoVale.NONE, true);
        compare("P38 sentence", text, wanted, Check.sentence(vale, text), wanted.many, -1);
        Check.due("P38 a SENTENCE behind '" + text + "'", vale.said(EchoVale.NONE), wanted.fault == 0 ? 0 : said);
    }

    private void condition(List<String> tokens, int depth) {
        int parts = 1 + upTo(depth > 1 ? 3 : 2) * upTo(2);
        for (int i = 0; i < parts && tokens.size() < 60; i++) {
            if (i > 0) {
                tokens.add(one("and", "or"));
            }
            int kind = upTo(depth > 0 ? 10 : 5);
            if (kind >= 7) {
                tokens.add("(");
                condition(tokens, depth - 1);
                tokens.add(")");
                continue;
            }
            for (int nots = kind >= 5 ? 1 + upTo(depth) : 0; nots > 0; nots--) {
                tokens.add("not");
            }
            switch (upTo(3)) {
                case 0:
                    tokens.add(one("lost", "joint"));
                    break;
                case 1:
                    tokens.addAll(List.of(one("of", "by"), one("a", "b")));
                    break;
                default:
                    tokens.addAll(List.of(one("worth", "loud", "hour", "echoes"), one("<", "=", ">"), number(0, 999)));
            }
        }
    }

    private List<String> damaged(List<String> tokens, int most) {
        List<String> all = new ArrayList<>(tokens);
        for (int n = upTo(5) < 2 ? 0 : 1 + upTo(2); n > 0 && !all.isEmpty(); n--) {
            int at = upTo(all.size());
            String other = switch (upTo(9)) {
                case 0 -> one(ODD);
                case 1 -> one(WORDS);
                case 2, 3 -> one(NAMES);
                case 4 -> one(SIGNS);
                case 5 -> all.get(upTo(all.size()));
                default -> one(NUMBERS);
            };
            boolean like = other.matches("[0-9]+") == all.get(at).matches("[0-9]+");
            switch (like ? 0 : upTo(6)) {
                case 0, 1, 2 -> all.set(at, other);
                case 3 -> all.add(at, other);
                case 4 -> all.remove(at);
                default -> all.subList(at, all.size()).clear();
            }
        }
        return all;
    }

    /** With blanks, or none where none is needed; some texts are made as long as they may be, some longer. */
    private String joined(List<String> tokens, int most) {
        StringBuilder text = new StringBuilder();
        boolean dense = upTo(3) == 0 || tokens.size() > 100 && upTo(2) == 0;
        int blanksAt = upTo(8) == 0 && !tokens.isEmpty() ? upTo(tokens.size() + 1) : -1;
        int length = 0;
        for (String token : tokens) {
            length += token.length() + 1;
        }
        for (int i = 0; i <= tokens.size(); i++) {
            if (i == blanksAt) {
                for (int n = most - length + upTo(20) - 6; n > 0; n--) {
                    text.append(upTo(30) == 0 ? '\n' : ' ');
                }
            }
            if (i < tokens.size()) {
                boolean runs = text.length() > 0 && isRun(text.charAt(text.length() - 1)) && isRun(tokens.get(i).charAt(0));
                text.append(runs && upTo(200) > 0 || !dense ? dense ? " " : one(" ", " ", " ", "\n", "  ") : "").append(tokens.get(i));
            }
        }
        text.setLength(Math.min(text.length(), 940));
        return text.toString();
    }

    private static boolean isRun(char c) {
        return c >= 'a' && c <= 'z' || c >= '0' && c <= '9';
    }
}
