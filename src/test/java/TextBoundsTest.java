import java.util.List;

/**
 * The edges of the texts, by the sentences under "Terms": promises 4, 5, 29 and 38. Each text is taken, or has its FAULT
 * at a told place; a text with a FAULT leaves all but the tape as it was.
 */
public final class TextBoundsTest {
    private static final int NONE = EchoVale.NONE;
    private static final States.Made BUSY = States::busy;
    private static final String KNOWN = "land 5 4;cliff n 0 0 2 5;person a 1 1;";
    private static final String[] TOLD = {"land", "cliff", "person", "move", "camp", "felt", "snow", "owns", "said", "heard",
        "or", "and", "not", "lost", "joint", "of", "by", "worth", "loud", "hour", "echoes"};
    private static final String BUSY_LEFT = Look.butTapeAndFault(BUSY);

    /** One of valley(), claims() and sentence(), with what it answers to a FAULT at place 0. */
    private enum Text {
        VALLEY(-1), CLAIMS(-2), SENTENCE(-1);

        final int less;

        Text(int less) {
            this.less = less;
        }

        int read(EchoVale vale, String text) {
            Check.tape(vale, text);
            return switch (this) {
                case VALLEY -> vale.valley();
                case CLAIMS -> vale.claims();
                case SENTENCE -> vale.sentence();
            };
        }
    }

    public static void main(String[] args) {
        tokens();
        numbers();
        places();
        names();
        onceTold();
        fullTables();
        leastKind();
        lengths();
        claims();
        sentences();
        within();
        faults();
        newValley();
        Check.finish("TextBoundsTest");
    }

    private static void due(String what, long got, long want) {
        Check.due(what, got, want);
    }

    private static void fault(Text kind, String text, int place, int fault) {
        int[] got = new int[3];
        States.Made after = () -> {
            EchoVale vale = States.busy();
            got[0] = kind.read(vale, text);
            got[1] = vale.fault();
            got[2] = vale.count(8);
            return vale;
        };
        Check.due(kind + " with a FAULT leaves all: " + text, Look.butTapeAndFault(after), BUSY_LEFT);
        due(kind + " " + text, got[0], kind.less - place);
        due("P5 fault of " + kind + " " + text, got[1], fault);
        due("the tape behind " + text, got[2], 0);
    }

    private static void valleyFault(String text, int place, int fault) {
        fault(Text.VALLEY, text, place, fault);
    }

    private static EchoVale good(Text kind, String text, int answer) {
        EchoVale vale = States.busy();
        due(kind + " " + text, kind.read(vale, text), answer);
        due("P5 no FAULT of " + text, vale.fault(), 0);
        due("the tape behind " + text, vale.count(8), 0);
        return vale;
    }

    private static EchoVale goodValley(String text) {
        int lines = 0;
        for (int i = 0; i < text.length(); i++) {
            lines += text.charAt(i) == ';' ? 1 : 0;
        }
        return good(Text.VALLEY, text, lines);
    }

    // WORDS of 1 to 7 letters, NUMBERS of 1 to 3 digits; blanks are 32 and 10 alone, and may be left out.
    private static void tokens() {
        String name = "abcdefghi";
        for (int letters = 1; letters <= 9; letters++) {
            String text = "land 5 5;person " + name.substring(0, letters) + " 0 0;";
            if (letters <= 7) {
                goodValley(text);
            } else {
                valleyFault(text, 16, 1);
            }
        }
        for (int zeros = 0; zeros <= 4; zeros++) {
            String number = "00000".substring(0, zeros) + "4";
            if (number.length() <= 3) {
                due("height of " + number, goodValley("land 5 " + number + ";").count(1), 4);
            } else {
                valleyFault("land 5 " + number + ";", 7, 1);
            }
        }
        valleyFault("landlan 5 5;", 0, 1);
        valleyFault("landland 5 5;", 0, 1);
        for (int b = 0; b < 256; b++) {
            String text = "land 5 4" + (char) b + ";";
            if (b == 32 || b == 10) {
                goodValley(text);
            } else if (b == ';') {
                valleyFault(text, 9, 1);
            } else if (b >= '0' && b <= '9') {
                valleyFault(text, 7, 2);
            } else {
                valleyFault(text, b >= 'a' && b <= 'z' ? 7 : 8, 1);
            }
        }
        goodValley("\n land\n\n5 5\n;snow 0 0 ;\n");
        goodValley("land 5 5;snow 0 0;person a 0 0;");
        valleyFault("land5 5;", 0, 1);
        valleyFault("land 5 5;snow0 0;", 9, 1);
        fault(Text.SENTENCE, "not(lost)and worth<5or(joint)", 19, 1);
        good(Text.SENTENCE, "not(lost)and worth<5 or(joint)", 6);
    }

    /** The NUMBER at ? is taken from low to high alone; a FAULT stands at it. */
    private static void number(String text, int low, int high) {
        int at = text.indexOf('?');
        for (int n : new int[] {low, low + 1, high - 1, high}) {
            goodValley(text.replace("?", "" + n));
        }
        for (int n : new int[] {low - 1, high + 1, 256 + low, 512 + low, 999}) {
            if (n >= 0) {
                valleyFault(text.replace("?", "" + n), at, 2);
            }
        }
        for (String other : new String[] {"b", "a", "land", ";", "(", "0000", "1a", "#"}) {
            valleyFault(text.replace("?", other), at, 1);
        }
        valleyFault(text.substring(0, at), at, 1);
    }

    private static void numbers() {
        number("land ? 5;", 2, 10);
        number("land 5 ?;", 2, 10);
        number(KNOWN + "cliff m 1 1 ? 9;", 1, 40);
        number(KNOWN + "cliff m 1 1 40 ?;", 1, 9);
        number(KNOWN + "move a ? 1 1;", 1, 200);
        number(KNOWN + "snow ? 9;", 0, 200);
        number(KNOWN + "snow 200 ?;", 0, 9);
        number("snow ? 0;", 0, 200);
        for (int side = 2; side <= 10; side++) {
            EchoVale vale = goodValley("land " + side + " " + (12 - side) + ";");
            due("P42 W", vale.count(0), side);
            due("P42 H", vale.count(1), 12 - side);
            due("P42 snow without any told", vale.count(7), 0);
        }
    }

    // X from 0, below W; Y from 0, below H; without a land none.
    private static void places() {
        String[] lines = {"cliff m % 1 1;", "person b %;", "move a 1 %;", "camp a %;", "felt %;"};
        for (String line : lines) {
            number(KNOWN + line.replace("%", "? 3"), 0, 4);
            number(KNOWN + line.replace("%", "4 ?"), 0, 3);
            number("land 10 2;person a 0 0;" + line.replace("%", "? 1"), 0, 9);
            number("land 2 10;person a 0 0;" + line.replace("%", "1 ?"), 0, 9);
            goodValley(KNOWN + line.replace("%", "0 3"));
        }
        for (String line : new String[] {"cliff m % 1 1;", "person b %;", "felt %;"}) {
            int at = line.indexOf('%');
            for (String cell : new String[] {"0 0", "1 1", "999 0"}) {
                valleyFault(line.replace("%", cell), at, 2);
                valleyFault("snow 1 1;" + line.replace("%", cell) + "land 5 5;", 9 + at, 2);
            }
            valleyFault(line.replace("%", "b 0"), at, 1);
            valleyFault(line.replace("%", "0000 0"), at, 1);
        }
        // The last CELL of all, for each of them.
        EchoVale vale = goodValley("land 10 10;cliff m 9 9 1 9;person b 9 9;camp b 9 9;move b 1 9 9;felt 9 9;");
        due("P6 the last CELL", vale.cliff(0, 0), 99);
        due("P7 the last CELL", vale.person(0, 0), 99);
        due("P7 the last CELL", vale.person(0, 5), 99);
    }

    // A NAME is none of the WORDS told, and told once.
    private static void names() {
        for (String word : TOLD) {
            for (String line : new String[] {"cliff % 1 1 1 1;", "person % 1 1;", "move % 1 1 1;", "camp % 1 1;"}) {
                valleyFault(KNOWN + line.replace("%", word), KNOWN.length() + line.indexOf('%'), 1);
            }
            for (String near : new String[] {word.substring(1), word.substring(0, word.length() - 1), word + "z", "z" + word}) {
                if (near.length() <= 7 && !near.equals("a") && !List.of(TOLD).contains(near)) {
                    goodValley(KNOWN + "cliff " + near + " 1 1 1 1;");
                    goodValley(KNOWN + "person " + near + " 1 1;");
                }
            }
            fault(Text.CLAIMS, "said " + word + " 0;", 5, 1);
            fault(Text.SENTENCE, "by " + word, 3, 1);
        }
        String two = KNOWN + "cliff abcdefg 1 0 1 1;person zbcdefg 1 0;";
        int at = two.length();
        for (String name : new String[] {"n", "a", "abcdefg", "zbcdefg"}) {
            valleyFault(two + "cliff " + name + " 3 3 1 1;", at + 6, 3);
            valleyFault(two + "person " + name + " 3 3;", at + 7, 3);
        }
        goodValley(two + "cliff abcdef 3 3 1 1;person bcdefg 3 3;person abcdefh 3 3;");
        for (String name : new String[] {"n", "abcdefg", "b", "zbcdef"}) {
            valleyFault(two + "move " + name + " 1 1 1;", at + 5, 3);
            valleyFault(two + "camp " + name + " 1 1;", at + 5, 3);
        }
        valleyFault(KNOWN + "camp b 1 1;person b 0 0;", KNOWN.length() + 5, 3);
        valleyFault(KNOWN + "move b 1 1 1;person b 0 0;", KNOWN.length() + 5, 3);
        goodValley(two + "move zbcdefg 1 1 1;camp zbcdefg 1 1;move a 1 1 1;camp a 1 1;");
    }

    // What is told once; where it is told again.
    private static void onceTold() {
        int at = KNOWN.length();
        valleyFault(KNOWN + "land 5 4;", at, 3);
        valleyFault(KNOWN + "land 11 1;", at, 3);
        valleyFault("snow 1 1;land 5 4;snow 2 1;land 6 6;", 27, 3);
        // Unlike CELLS: felt and PERSONS don't mind a CLIFF.
        valleyFault(KNOWN + "cliff m 0 0 1 1;", at + 10, 3);
        valleyFault(KNOWN + "cliff m 4 3 1 1;cliff o 4 3 1 1;", at + 26, 3);
        goodValley(KNOWN + "felt 0 0;person b 0 0;person c 0 0;camp b 0 0;move c 1 0 0;cliff m 1 1 1 1;");
        goodValley(KNOWN + "felt 1 0;cliff m 1 0 1 1;cliff o 0 1 1 1;");
        valleyFault(KNOWN + "felt 3 2;felt 2 3;felt 3 2;", at + 25, 3);
        // A PERSON and an HOUR once together.
        String moves = KNOWN + "person b 0 0;move a 200 0 0;";
        valleyFault(moves + "move a 200 4 4;", moves.length() + 7, 3);
        valleyFault(moves + "move a 200", moves.length() + 7, 3);
        goodValley(moves + "move b 200 0 0;move a 199 0 0;move a 1 0 0;");
        goodValley("land 5 4;person a 0 0;person b 0 0;camp b 1 1;camp a 1 1;");
        valleyFault(KNOWN + "camp a 1 1;camp a 2 2;", at + 16, 3);
        valleyFault(KNOWN + "camp a 1 1;camp a 9 9;", at + 16, 3);
        // An HOUR once, with another N, too.
        valleyFault("snow 0 1;snow 0 2;", 14, 3);
        valleyFault("snow 200 1;snow 0 1;snow 200 1;", 25, 3);
        goodValley("snow 200 1;snow 0 1;snow 199 1;snow 1 1;");
    }

    // Each table full, and the first LINE beyond it, at its first WORD, whatever is behind it.
    private static void fullTables() {
        StringBuilder all = new StringBuilder("land 10 10;");
        addLines(all, "cliff c% 0 ? 1 9;", "c", 6);
        addLines(all, "person p% 9 ?;", "p", 6);
        addLines(all, "camp p% 8 ?;", "p", 6);
        addLines(all, "felt 5 ?;", "", 8);
        addLines(all, "snow ? ?;", "", 6);
        for (int i = 0; i < 20; i++) {
            all.append("move p").append((char) ('a' + i % 6)).append(' ').append(i + 1).append(" 3 ").append(i % 10).append(';');
        }
        String text = all.toString();
        due("bytes of a VALLEY that is full", text.length() <= 900 ? 1 : 0, 1);
        EchoVale vale = good(Text.VALLEY, text, 53);
        due("P42 CLIFFS", vale.count(2), 6);
        due("P42 PERSONS", vale.count(3), 6);
        for (int i = 0; i < 6; i++) {
            due("P6 CLIFF " + i, vale.cliff(i, 0), 10 * i);
            due("P7 PERSON " + i, vale.person(i, 0), 10 * i + 9);
            due("P7 camp of PERSON " + i, vale.person(i, 5), 10 * i + 8);
            due("P42 snow of HOUR " + i, vale.count(7), i);
            vale.on(1);
        }
        for (int y = 0; y < 10; y++) {
            due("felt " + y, vale.reach(10 * y + 5, 2), y < 8 ? 0 : vale.reach(10 * y + 5, 2));
            vale.goes(0, 10 * y + 5);
            vale.says(0, 1, 9);
            due("P8 felt " + y, vale.saying(y, 4), y < 8 ? 7 : 9);
        }
        vale.on(9);
        vale.goes(0, 0);
        for (int hour = 16; hour <= 20; hour++) {
            vale.on(1);
            due("P7 the move of HOUR " + hour, vale.person((hour - 1) % 6, 0), 3 + 10 * ((hour - 1) % 10));
        }
        int at = text.length();
        for (String rest : new String[] {"", " ", " a", " p 0 0;", " zz 99 99;", " 1 2 3;", " ;", "  #", " said"}) {
            for (String first : new String[] {"cliff", "person", "move", "felt", "snow"}) {
                valleyFault(text + first + rest, at, 4);
            }
        }
        valleyFault(text + "camp pa 1 1;", at + 5, 3);
        valleyFault(text + "land 1 1;", at, 3);
    }

    private static void addLines(StringBuilder text, String line, String name, int many) {
        for (int i = 0; i < many; i++) {
            text.append(line.replace(name + "%", name + (char) ('a' + i)).replace("?", "" + i));
        }
    }

    // Of one TOKEN the least; of more TOKENS the first.
    private static void leastKind() {
        StringBuilder snows = new StringBuilder();
        addLines(snows, "snow ? 1;", "", 6);
        String full = snows.toString();
        valleyFault(full + "snow 999 99", full.length(), 4);
        valleyFault(full + "snowy 1 1;", full.length(), 1);
        valleyFault(full + "snow1 1;", full.length(), 1);
        valleyFault(full + "land 1 1;snow 9 9;", full.length() + 5, 2);
        valleyFault("snow 5 1;snow 5 99;", 14, 3);
        valleyFault("snow 5 99;snow 5 1;", 7, 2);
        valleyFault("land 5 5;person x 9 9;person x 0 0;", 18, 2);
        valleyFault("land 5 5;felt 1 1;felt 1 9;", 25, 2);
        valleyFault("land 5 5;felt 1 1;felt 9 1;", 23, 2);
        valleyFault("land 5 5;cliff c 1 1 1 1;cliff c 1 1 99 99;", 31, 3);
        valleyFault("land 5 5;cliff c 1 1 1 1;cliff d 1 1 99 99;", 35, 3);
        valleyFault("land 5 5;land", 9, 3);
        valleyFault("land 5 5 land 5 5;", 9, 1);
        valleyFault("land 5 5;person a 0 0;move a 0 9 9;", 29, 2);
    }

    private static String padded(String text, int length) {
        StringBuilder all = new StringBuilder(text);
        while (all.length() < length) {
            all.append(all.length() % 7 == 0 ? '\n' : ' ');
        }
        return all.toString();
    }

    // 900, 300 and 200 bytes are taken, one more is not: the FAULT is at the most bytes, if none is ahead of it.
    private static void lengths() {
        length(Text.VALLEY, 900, "land 5 5;", 1, "land 5", "land 5 55;", 7, 2);
        length(Text.CLAIMS, 300, "said a 0;", NONE, "said a", "said a 30;", 7, 2);
        length(Text.SENTENCE, 200, "lost", 1, "lost or", "by z and", 3, 3);
        // TOKENS that begin ahead of it are read whole, what they may be told in full.
        String land = padded("land 5 5;", 898);
        valleyFault(land + " land", 899, 3);
        valleyFault(land + " lands", 899, 1);
        valleyFault(land + "  land", 900, 1);
        valleyFault(land + " #", 899, 1);
        valleyFault(land + "  #", 900, 1);
        valleyFault(padded("snow", 899) + "200", 900, 1);
        valleyFault(padded("snow", 899) + "201", 899, 2);
        valleyFault(padded("snow", 899) + "2000", 899, 1);
        valleyFault(padded("snow", 898) + "20", 900, 1);
        valleyFault(padded("snow", 898) + "20 1;", 900, 1);
        valleyFault(padded("snow", 898) + "20x", 898, 1);
        valleyFault(padded("snow 1 1;snow 3", 899) + "3;", 900, 1);
        fault(Text.CLAIMS, padded("said a", 299) + "29", 300, 1);
        fault(Text.CLAIMS, padded("said a", 299) + "30", 299, 2);
        fault(Text.CLAIMS, padded("said", 299) + "ab 1;", 299, 3);
        fault(Text.CLAIMS, padded("said", 300) + "ab 1;", 300, 1);
        fault(Text.SENTENCE, padded("by", 199) + "ab", 199, 3);
        fault(Text.SENTENCE, padded("by", 200) + "ab", 200, 1);
        fault(Text.SENTENCE, padded("lost", 199) + "and", 200, 1);
        fault(Text.SENTENCE, padded("lost and", 199) + "lost", 200, 1);
        fault(Text.SENTENCE, padded("lost and", 196) + "lost ", 200, 1);
        good(Text.SENTENCE, padded("lost and", 196) + "lost", 2);
        fault(Text.SENTENCE, padded("lost", 199) + "lost", 199, 1);
        fault(Text.SENTENCE, padded("lost", 200) + "lost", 200, 1);
    }

    private static void length(Text kind, int most, String whole, int answer, String part, String wrong, int at, int fault) {
        good(kind, whole, answer);
        good(kind, padded(whole, most - 1), answer);
        good(kind, padded(whole, most), answer);
        good(kind, padded("", most - whole.length()) + whole, answer);
        for (int more = most + 1; more <= Math.min(940, most + 41); more++) {
            fault(kind, padded(whole, more), most, 1);
        }
        fault(kind, padded("", most + 1 - whole.length()) + whole, most, 1);
        fault(kind, padded("", most + 1), most, 1);
        fault(kind, padded(wrong, most + 1), at, fault);
        // The end: how many bytes there are.
        fault(kind, part, part.length(), 1);
        fault(kind, padded(part, part.length() + 1), part.length() + 1, 1);
        fault(kind, padded(part, most - 1), most - 1, 1);
        fault(kind, padded(part, most), most, 1);
        fault(kind, padded(part, most + 1), most, 1);
    }

    // SAYING N, 0 to 29; thirty LINES.
    private static void claims() {
        for (String verb : new String[] {"owns", "said", "heard"}) {
            String text = verb + " a ?;";
            int at = text.indexOf('?');
            for (int n : new int[] {0, 1, 28, 29}) {
                EchoVale vale = States.busy();
                due("P29 takes SAYING " + n, Text.CLAIMS.read(vale, text.replace("?", "" + n)) >= NONE ? 1 : 0, 1);
                due("P5 no FAULT", vale.fault(), 0);
            }
            for (int n : new int[] {30, 31, 60, 256, 999}) {
                fault(Text.CLAIMS, text.replace("?", "" + n), at, 2);
            }
            for (String other : new String[] {"a", "said", ";", "0000", "1a"}) {
                fault(Text.CLAIMS, text.replace("?", other), at, 1);
            }
            fault(Text.CLAIMS, verb, verb.length(), 1);
            fault(Text.CLAIMS, verb + " a 1", verb.length() + 4, 1);
            fault(Text.CLAIMS, verb + " a 1 2", verb.length() + 5, 1);
            fault(Text.CLAIMS, verb + " p 1;", verb.length() + 1, 3);
            fault(Text.CLAIMS, verb + " z 99;", verb.length() + 1, 3);
            fault(Text.CLAIMS, verb + " 1 a;", verb.length() + 1, 1);
        }
        for (String word : TOLD) {
            if (!word.equals("owns") && !word.equals("said") && !word.equals("heard")) {
                fault(Text.CLAIMS, word + " a 0;", 0, 1);
            }
        }
        StringBuilder lines = new StringBuilder();
        for (int i = 0; i < 30; i++) {
            int n = i;
            EchoVale vale = States.full();
            due("P29 " + i + " LINES that are so", Check.claims(vale, lines.toString()), NONE);
            due("P29 the LINE that is not so", Check.claims(vale, lines + "owns a 1;"), n);
            lines.append("said ").append("abcd".charAt(i % 4)).append(' ').append(i).append(';');
        }
        EchoVale vale = States.full();
        due("P29 thirty LINES that are so", Check.claims(vale, lines.toString()), NONE);
        due("P5 no FAULT", vale.fault(), 0);
        due("P29 a 31st LINE", Check.claims(vale, lines + "said a 0;"), -2 - lines.length());
        due("P5 FAULT of a 31st LINE", vale.fault(), 4);
        String thirty = lines.toString();
        fault(Text.CLAIMS, thirty + " \nowns", thirty.length() + 2, 4);
        fault(Text.CLAIMS, thirty + "heard 1 2", thirty.length(), 4);
        fault(Text.CLAIMS, thirty + "owners a 1;", thirty.length(), 1);
        fault(Text.CLAIMS, thirty + ";", thirty.length(), 1);
        due("P29 no LINES", Check.claims(States.busy(), ""), NONE);
        due("P29 claims of a new one", Check.claims(new EchoVale(), ""), NONE);
        due("P29 nobody there", Check.claims(new EchoVale(), "said a 0;"), -2 - 5);
        due("P29 SAYING 29 of thirty", Check.claims(States.full(), "said b 29;"), NONE);
        due("P29 SAYING 29 is not said", Check.claims(States.busy(), "said b 29;"), 0);
    }

    private static void sentences() {
        for (String word : new String[] {"worth", "loud", "hour", "echoes"}) {
            for (String sign : new String[] {"<", "=", ">"}) {
                for (String number : new String[] {"0", "000", "99", "999"}) {
                    good(Text.SENTENCE, word + sign + number, 1);
                    good(Text.SENTENCE, word + " " + sign + "\n" + number + " ", 1);
                }
                fault(Text.SENTENCE, word + sign + "0000", word.length() + 1, 1);
                fault(Text.SENTENCE, word + sign, word.length() + 1, 1);
                fault(Text.SENTENCE, word + sign + "a", word.length() + 1, 1);
                fault(Text.SENTENCE, word + sign + sign + "1", word.length() + 1, 1);
                fault(Text.SENTENCE, word + sign + "1 1", word.length() + 3, 1);
            }
            for (String other : new String[] {"", "5", "a", "(", ")", ";", "and"}) {
                fault(Text.SENTENCE, word + " " + other, word.length() + 1, 1);
            }
        }
        for (String word : TOLD) {
            boolean begins = "not lost joint of by worth loud hour echoes".contains(word) && !word.equals("or");
            if (!begins) {
                fault(Text.SENTENCE, word + " lost", 0, 1);
                fault(Text.SENTENCE, "not " + word + " lost", 4, 1);
                fault(Text.SENTENCE, "(" + word + ")", 1, 1);
            }
            boolean joins = word.equals("and") || word.equals("or");
            if (!joins) {
                fault(Text.SENTENCE, "lost " + word + " joint", 5, 1);
            } else {
                good(Text.SENTENCE, "lost " + word + " joint", 2);
                fault(Text.SENTENCE, "lost " + word, 5 + word.length(), 1);
                fault(Text.SENTENCE, "lost " + word + " " + word + " lost", 6 + word.length(), 1);
            }
        }
        for (String word : new String[] {"of", "by"}) {
            for (String name : new String[] {"a", "b", "c", "d"}) {
                good(Text.SENTENCE, word + " " + name, 1);
            }
            fault(Text.SENTENCE, word + " p", 3, 3);
            fault(Text.SENTENCE, word + " e", 3, 3);
            fault(Text.SENTENCE, word + " 0", 3, 1);
            fault(Text.SENTENCE, word + " aaaaaaaa", 3, 1);
            fault(Text.SENTENCE, word + " a a", 5, 1);
        }
        fault(Text.SENTENCE, "", 0, 1);
        fault(Text.SENTENCE, "(lost", 5, 1);
        fault(Text.SENTENCE, "lost)", 4, 1);
        fault(Text.SENTENCE, "((lost)", 7, 1);
        fault(Text.SENTENCE, "(lost)lost", 6, 1);
        fault(Text.SENTENCE, "(lost)(lost)", 6, 1);
        fault(Text.SENTENCE, "lost not joint", 5, 1);
    }

    private static String times(String part, int n) {
        return part.repeat(n);
    }

    // Twenty ONES, eight within one another; at the first TOKEN of what is too much.
    private static void within() {
        for (int ones = 1; ones <= 20; ones++) {
            good(Text.SENTENCE, times("lost or ", ones - 1) + "joint", ones);
            good(Text.SENTENCE, times("lost and ", ones - 1) + "of a", ones);
        }
        for (String last : new String[] {"lost", "joint", "of a", "by z", "worth<1", "not lost", "(lost)", "hour"}) {
            good(Text.SENTENCE, times("lost or ", 18) + "lost or joint", 20);
            fault(Text.SENTENCE, times("lost or ", 20) + last, 160, 4);
        }
        fault(Text.SENTENCE, times("lost or ", 20) + ")", 160, 1);
        fault(Text.SENTENCE, times("lost or ", 20), 160, 1);
        fault(Text.SENTENCE, times("lost or ", 20) + "a", 160, 1);
        // Brackets and 'not' are ONES, too: twenty with ten brackets, and one more.
        good(Text.SENTENCE, times("(lost)or", 9) + "(lost)", 20);
        fault(Text.SENTENCE, times("(lost)or", 10) + " lost", 81, 4);
        fault(Text.SENTENCE, times("(lost)or", 9) + " not(lost)", 77, 4);
        good(Text.SENTENCE, times("not lost or ", 9) + "not lost", 20);
        fault(Text.SENTENCE, times("not lost or ", 9) + "not not lost", 116, 4);
        for (int depth = 1; depth <= 12; depth++) {
            for (int nots = 0; nots < depth; nots++) {
                String open = times("not ", nots) + times("(", depth - 1 - nots);
                String text = open + "lost" + times(")", depth - 1 - nots);
                if (depth <= 8) {
                    good(Text.SENTENCE, text, depth);
                } else {
                    fault(Text.SENTENCE, text, nots >= 8 ? 32 : 4 * nots + 8 - nots, 4);
                }
            }
        }
        // Within counts anew behind what is closed.
        good(Text.SENTENCE, times("(", 7) + "lost" + times(")", 7) + "and " + times("not ", 7) + "lost", 16);
        good(Text.SENTENCE, times("not ", 7) + "lost or " + times("(", 7) + "lost" + times(")", 7) + "or lost", 17);
        good(Text.SENTENCE, times("(", 7) + "lost and lost or joint" + times(")", 7), 10);
        fault(Text.SENTENCE, times("(", 7) + "lost and not lost" + times(")", 7), 20, 4);
        fault(Text.SENTENCE, times("(", 7) + "not lost" + times(")", 7), 11, 4);
        fault(Text.SENTENCE, times("(", 8) + "and", 8, 1);
        fault(Text.SENTENCE, times("(", 8), 8, 1);
    }

    // Promise 5: of the latest valley(), claims() or sentence(); no other call tells it anew.
    private static void faults() {
        EchoVale vale = new EchoVale();
        due("P5 ahead of any", vale.fault(), 0);
        due("P4", Check.valley(vale, "snow 201 0;"), -6);
        Check.pieces(vale, 0, 1, 1);
        vale.on(0);
        vale.restore(0);
        vale.end(-1);
        due("P5 other calls leave it", vale.fault(), 2);
        due("P38", Check.sentence(vale, "by z"), -4);
        due("P5 of a sentence()", vale.fault(), 3);
        due("P29", Check.claims(vale, ""), NONE);
        due("P5 of claims()", vale.fault(), 0);
        due("P29", Check.claims(vale, "#"), -2);
        due("P5 of claims()", vale.fault(), 1);
        due("P38", Check.sentence(vale, "lost"), 1);
        due("P5 of a sentence()", vale.fault(), 0);
        due("P38", Check.sentence(vale, times("not ", 8) + "lost"), -33);
        due("P5 of a sentence()", vale.fault(), 4);
        due("P4", Check.valley(vale, ""), 0);
        due("P5 of a valley()", vale.fault(), 0);
        States.Made image = () -> {
            EchoVale kept = States.busy();
            kept.image(1);
            Check.claims(kept, "");
            return kept;
        };
        EchoVale back = image.make();
        due("P41 restore", back.restore(1) ? 1 : 0, 1);
        due("P41 fault() stays", back.fault(), 0);
    }

    // A new VALLEY: HOUR 0, nothing said, no SENTENCE; nothing can be undone; what other calls told last stays.
    private static void newValley() {
        for (String text : new String[] {"", States.TEXT, "land 2 2;", "snow 0 9;"}) {
            States.Made anew = () -> {
                EchoVale vale = States.busy();
                due("P4 a new VALLEY", Check.valley(vale, text) >= 0 ? 1 : 0, 1);
                return vale;
            };
            States.Made first = () -> Check.vale(text);
            Check.due("P4 a new VALLEY is as of a new object: " + text, Look.now(anew), Look.now(first));
            Check.due("P4 what other calls told last stays: " + text, Look.told(anew), Look.told(BUSY));
            due("P4 HOUR 0", anew.make().count(4), 0);
            due("P4 nothing said", anew.make().count(5), 0);
            due("P4 nothing SOUNDED", anew.make().count(6), 0);
            due("P4 no SENTENCE", anew.make().said(NONE), NONE);
            due("P4 nothing can be undone", anew.make().undo(), NONE);
            due("P4 an image stays", anew.make().restore(0) ? 1 : 0, 1);
        }
    }
}
