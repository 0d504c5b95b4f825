/** The tape, and the texts that are read from it, with their FAULTS: promises 1 to 5, 29 and 38. */
public final class TextTest {
    private static final int NONE = EchoVale.NONE;
    private static final String LAND = "land 5 5;";
    private static final String TWO = "land 5 5;cliff n 0 0 2 5;person a 1 1;";

    public static void main(String[] args) {
        newObject();
        tape();
        lines();
        tokens();
        unlikelyTokens();
        numbers();
        names();
        tooMany();
        tooLong();
        faultsLeaveAll();
        claimsFaults();
        sentenceFaults();
        nesting();
        Check.finish("TextTest");
    }

    private static void fault(String text, int place, int kind) {
        EchoVale vale = new EchoVale();
        Check.due("P4 valley " + text, Check.valley(vale, text), -1 - place);
        Check.due("P5 fault of " + text, vale.fault(), kind);
        Check.due("P4 the tape behind " + text, vale.count(8), 0);
        Check.due("P4 cliffs behind a fault", vale.count(2), 0);
    }

    private static void good(String text, int lines) {
        EchoVale vale = new EchoVale();
        Check.due("P4 valley " + text, Check.valley(vale, text), lines);
        Check.due("P5 fault of " + text, vale.fault(), 0);
        Check.due("P4 the tape behind " + text, vale.count(8), 0);
    }

    private static void newObject() {
        EchoVale vale = new EchoVale();
        for (int what = 0; what <= 8; what++) {
            Check.due("P1 count of a new one " + what, vale.count(what), 0);
        }
        Check.due("P5 fault of a new one", vale.fault(), 0);
        Check.due("P1 undo of a new one", vale.undo(), NONE);
        Check.due("P1 said of a new one", vale.said(NONE), NONE);
        Check.due("P1 byteAt of a new one", vale.byteAt(0), NONE);
        Check.due("P1 storms of a new one", vale.storms(0), NONE);
        Check.due("P1 piece of a new one", vale.piece(0), NONE);
        Check.due("P1 restore of a new one", vale.restore(0), false);
        Check.due("P1 an hour of a new one", vale.on(1), 1);
    }

    private static void tape() {
        EchoVale vale = new EchoVale();
        for (int i = 1; i <= 47; i++) {
            Check.due("P2 feed " + i, vale.feed(1, 2, 3, 4, 5), i * 20);
        }
        Check.due("P2 feed of a full tape", vale.feed(1, 2, 3, 4, 5), NONE);
        Check.due("P2 bytes of a full tape", vale.count(8), 940);
        Check.due("P3 end beyond", vale.end(941), false);
        Check.due("P3 end below", vale.end(-1), false);
        Check.due("P3 bytes behind refused ends", vale.count(8), 940);
        Check.due("P3 end at all", vale.end(940), true);
        Check.due("P3 end at 921", vale.end(921), true);
        Check.due("P2 feed of 921", vale.feed(1, 2, 3, 4, 5), NONE);
        Check.due("P3 end at 920", vale.end(920), true);
        Check.due("P2 feed of 920", vale.feed(1, 2, 3, 4, 5), 940);
        Check.due("P3 end at 0", vale.end(0), true);
        Check.due("P3 bytes of none", vale.count(8), 0);
        // 'lan' and 'd 2 3;' in two numbers and a half, the highest byte first.
        vale.feed(0x6c616e64, 0x20322033, 0x3b000000, 0, 0);
        vale.end(9);
        Check.due("P2 highest first", vale.valley(), 1);
        Check.due("P4 width", vale.count(0), 2);
        Check.due("P4 height", vale.count(1), 3);
        // Bytes above 127 are no TOKENS.
        vale.feed(0xff000000, 0, 0, 0, 0);
        vale.end(1);
        Check.due("P2 a high byte", vale.valley(), -1);
        Check.due("P5 fault of a high byte", vale.fault(), 1);
    }

    private static void lines() {
        good("", 0);
        good(" \n ", 0);
        good("land 2 2;", 1);
        good("land 10 10;", 1);
        good("land\n10 010 ; ", 1);
        good("snow 0 0;snow 200 9;land 5 5;", 3);
        good(TWO + "move a 1 0 0;move a 200 4 4;camp a 4 4;felt 4 4;felt 0 0;snow 7 1;", 9);
        good("land 5 5;person abcdefg 0 0;", 2);
        good("land 5 5;person a 0 0;cliff b 0 0 40 9;cliff c 1 0 1 1;", 4);
    }

    private static void tokens() {
        fault("land 5 5", 8, 1);
        fault("land 5 5 ", 9, 1);
        fault("land 5", 6, 1);
        fault("land", 4, 1);
        fault(";", 0, 1);
        fault("a;", 0, 1);
        fault("7;", 0, 1);
        fault("land 5 5;;", 9, 1);
        fault("land a 5;", 5, 1);
        fault("land said 5;", 5, 1);
        fault("land ; 5;", 5, 1);
        fault("0 5 5;", 0, 1);
        fault("( 5 5;", 0, 1);
        fault("land 5 5 5;", 9, 1);
        fault("land 5 5.", 8, 1);
        fault("land 5 5\t;", 8, 1);
        fault("Land 5 5;", 0, 1);
        fault("land 5 5;owns a 1;", 9, 1);
        fault("land 5 5;lost;", 9, 1);
        fault(LAND + "cliff 1 0 0 2 9;", 15, 1);
        fault(LAND + "cliff lost 0 0 2 9;", 15, 1);
        fault(LAND + "person echoes 0 0;", 16, 1);
        fault(LAND + "move land 1 0 0;", 14, 1);
        fault(LAND + "camp 3 0 0;", 14, 1);
        fault(LAND + "felt a 0;", 14, 1);
        fault(LAND + "felt 0 a;", 16, 1);
    }

    private static void unlikelyTokens() {
        fault("land5 5 5;", 0, 1);
        fault("5land 5 5;", 0, 1);
        fault("land 5a 5;", 5, 1);
        fault("land 0005 5;", 5, 1);
        fault("land 1234 5;", 5, 1);
        fault(LAND + "person abcdefgh 0 0;", 16, 1);
        fault(LAND + "person a1 0 0;", 16, 1);
        fault("land 5 5;#", 9, 1);
    }

    private static void numbers() {
        fault("land 1 5;", 5, 2);
        fault("land 11 5;", 5, 2);
        fault("land 5 1;", 7, 2);
        fault("land 5 11;", 7, 2);
        fault("felt 0 0;", 5, 2);
        fault("person a 0 0;", 9, 2);
        fault("cliff a 0 0 1 1;", 8, 2);
        fault("felt 0 0;land 5 5;", 5, 2);
        fault(LAND + "felt 5 0;", 14, 2);
        fault(LAND + "felt 0 5;", 16, 2);
        fault(LAND + "cliff a 0 0 0 1;", 21, 2);
        fault(LAND + "cliff a 0 0 41 1;", 21, 2);
        fault(LAND + "cliff a 0 0 1 0;", 23, 2);
        fault(LAND + "cliff a 0 0 1 10;", 23, 2);
        fault(TWO + "move a 0 0 0;", TWO.length() + 7, 2);
        fault(TWO + "move a 201 0 0;", TWO.length() + 7, 2);
        fault(TWO + "move a 1 5 0;", TWO.length() + 9, 2);
        fault(TWO + "camp a 0 5;", TWO.length() + 9, 2);
        fault("snow 201 0;", 5, 2);
        fault("snow 0 10;", 7, 2);
    }

    private static void names() {
        fault("land 5 5;land 5 5;", 9, 3);
        fault(TWO + "cliff n 3 3 1 1;", TWO.length() + 6, 3);
        fault(TWO + "cliff a 3 3 1 1;", TWO.length() + 6, 3);
        fault(TWO + "person n 3 3;", TWO.length() + 7, 3);
        fault(TWO + "person a 3 3;", TWO.length() + 7, 3);
        fault(TWO + "move n 1 0 0;", TWO.length() + 5, 3);
        fault(TWO + "move z 0 0 0;", TWO.length() + 5, 3);
        fault(TWO + "camp n 0 0;", TWO.length() + 5, 3);
        fault(TWO + "camp z 0 0;", TWO.length() + 5, 3);
        fault(TWO + "camp a 0 0;camp a 1 1;", TWO.length() + 16, 3);
        fault(TWO + "move a 7 0 0;move a 7 1 1;", TWO.length() + 20, 3);
        fault(TWO + "cliff m 0 0 1 1;", TWO.length() + 10, 3);
        fault(LAND + "felt 1 1;felt 1 1;", 25, 3);
        fault("snow 9 0;snow 9 11;", 14, 3);
        good(TWO + "person b 1 1;move a 7 0 0;move b 7 0 0;cliff m 1 0 1 1;felt 1 0;", 8);
    }

    private static void tooMany() {
        String cliffs = "land 9 9;cliff a 0 0 1 1;cliff b 1 0 1 1;cliff c 2 0 1 1;cliff d 3 0 1 1;cliff e 4 0 1 1;"
            + "cliff f 5 0 1 1;";
        good(cliffs, 7);
        fault(cliffs + "cliff 1", cliffs.length(), 4);
        String persons = "land 9 9;person a 0 0;person b 0 0;person c 0 0;person d 0 0;person e 0 0;person f 0 0;";
        good(persons, 7);
        fault(persons + "person a", persons.length(), 4);
        StringBuilder moves = new StringBuilder(TWO);
        for (int i = 1; i <= 20; i++) {
            moves.append("move a ").append(i).append(" 0 0;");
        }
        good(moves.toString(), 23);
        fault(moves + " move ", moves.length() + 1, 4);
        StringBuilder felts = new StringBuilder("land 9 9;");
        for (int i = 0; i < 8; i++) {
            felts.append("felt 1 ").append(i).append(';');
        }
        good(felts.toString(), 9);
        fault(felts + "felt 1 8;", felts.length(), 4);
        StringBuilder snows = new StringBuilder();
        for (int i = 0; i < 6; i++) {
            snows.append("snow ").append(i).append(" 1;");
        }
        good(snows.toString(), 6);
        fault(snows + "snow 7 1;", snows.length(), 4);
    }

    private static String filled(String text, int length) {
        StringBuilder all = new StringBuilder(text);
        while (all.length() < length) {
            all.append(' ');
        }
        return all.toString();
    }

    private static void tooLong() {
        good(filled(LAND, 900), 1);
        fault(filled(LAND, 901), 900, 1);
        fault(filled(LAND, 940), 900, 1);
        fault(filled("land 5 6", 899) + ";x", 900, 1);
        // A TOKEN that begins ahead of the 900th byte is read whole.
        fault(filled(LAND, 899) + "land", 899, 3);
        fault(filled(LAND, 898) + "snowy 1 1;", 898, 1);
        fault(filled(LAND, 896) + "snow 1 1;", 900, 1);
        fault(filled(LAND, 900) + "#", 900, 1);
        fault(filled(LAND + "snow", 899) + "201 1;", 899, 2);
        fault(filled(LAND + "snow", 899) + "200 1;", 900, 1);
        // What is wrong ahead of it is told first.
        fault(filled("land 5 5", 901), 900, 1);
        fault(filled("land 1 5;", 930), 5, 2);
    }

    private static void faultsLeaveAll() {
        EchoVale vale = Check.vale(TWO);
        vale.says(0, 5, 5);
        vale.on(1);
        Check.sentence(vale, "lost");
        Check.due("P4 a fault", Check.valley(vale, "land 9 9;x;"), -10);
        Check.due("P4 width stays", vale.count(0), 5);
        Check.due("P4 hour stays", vale.count(4), 1);
        Check.due("P4 saying stays", vale.count(5), 1);
        Check.due("P4 sentence stays", vale.said(NONE), 0);
        Check.due("P4 undo stays", vale.undo(), 1);
        Check.due("P5 fault stays", vale.fault(), 1);
        Check.due("P29 claims", Check.claims(vale, "said a 0;"), NONE);
        Check.due("P5 no fault", vale.fault(), 0);
        Check.due("P4 new", Check.valley(vale, "land 9 9;"), 1);
        Check.due("P4 hour of a new one", vale.count(4), 0);
        Check.due("P4 sayings of a new one", vale.count(5), 0);
        Check.due("P4 sentence of a new one", vale.said(NONE), NONE);
        Check.due("P4 undo of a new one", vale.undo(), NONE);
    }

    private static void claimsFault(EchoVale vale, String text, int place, int kind) {
        Check.due("P29 claims " + text, Check.claims(vale, text), -2 - place);
        Check.due("P5 fault of " + text, vale.fault(), kind);
        Check.due("P29 the tape behind " + text, vale.count(8), 0);
    }

    private static void claimsFaults() {
        EchoVale vale = Check.vale(TWO);
        vale.says(0, 5, 1);
        claimsFault(vale, "x a 0;", 0, 1);
        claimsFault(vale, "land a 0;", 0, 1);
        claimsFault(vale, "owns 1 0;", 5, 1);
        claimsFault(vale, "owns said 0;", 5, 1);
        claimsFault(vale, "owns a b;", 7, 1);
        claimsFault(vale, "owns a land;", 7, 1);
        claimsFault(vale, "8 a 0;", 0, 1);
        claimsFault(vale, "owns a 0", 8, 1);
        claimsFault(vale, "owns a 0;owns a 0 0;", 18, 1);
        claimsFault(vale, "owns a 30;", 7, 2);
        claimsFault(vale, "heard a 999;", 8, 2);
        claimsFault(vale, "owns n 0;", 5, 3);
        claimsFault(vale, "owns z 0;", 5, 3);
        StringBuilder thirty = new StringBuilder();
        for (int i = 0; i < 30; i++) {
            thirty.append("owns a 0;");
        }
        Check.due("P29 thirty lines", Check.claims(vale, thirty.toString()), NONE);
        claimsFault(vale, thirty + "owns", 270, 4);
        claimsFault(vale, thirty + "land", 270, 1);
        Check.due("P29 300 bytes", Check.claims(vale, filled(thirty.toString(), 300)), NONE);
        claimsFault(vale, filled(thirty.toString(), 301), 300, 1);
        claimsFault(vale, filled("owns z 0;", 301), 5, 3);
        claimsFault(vale, filled("", 299) + "owns a 0;", 300, 1);
        Check.due("P29 a fault behind what is not so", Check.claims(vale, "heard a 0;owns"), -2 - 14);
        Check.due("P29 none at all", Check.claims(vale, ""), NONE);
    }

    private static void sentenceFault(EchoVale vale, String text, int place, int kind) {
        Check.due("P38 sentence " + text, Check.sentence(vale, text), -1 - place);
        Check.due("P5 fault of " + text, vale.fault(), kind);
        Check.due("P38 the tape behind " + text, vale.count(8), 0);
    }

    private static void sentenceFaults() {
        EchoVale vale = Check.vale(TWO);
        sentenceFault(vale, "", 0, 1);
        sentenceFault(vale, "  ", 2, 1);
        Check.due("P39 no sentence yet", vale.said(NONE), NONE);
        sentenceFault(vale, "lost;", 4, 1);
        sentenceFault(vale, "lost lost", 5, 1);
        sentenceFault(vale, "lost or", 7, 1);
        sentenceFault(vale, "or lost", 0, 1);
        sentenceFault(vale, "(lost", 5, 1);
        sentenceFault(vale, "(lost))", 6, 1);
        sentenceFault(vale, "()", 1, 1);
        sentenceFault(vale, "not", 3, 1);
        sentenceFault(vale, "not and", 4, 1);
        sentenceFault(vale, "of", 2, 1);
        sentenceFault(vale, "of 1", 3, 1);
        sentenceFault(vale, "of lost", 3, 1);
        sentenceFault(vale, "worth 5", 6, 1);
        sentenceFault(vale, "worth ( 5", 6, 1);
        sentenceFault(vale, "worth<a", 6, 1);
        sentenceFault(vale, "worth<hour", 6, 1);
        sentenceFault(vale, "13", 0, 1);
        sentenceFault(vale, "of(", 2, 1);
        sentenceFault(vale, "worth<1000", 6, 1);
        sentenceFault(vale, "worth<=5", 6, 1);
        sentenceFault(vale, "a", 0, 1);
        sentenceFault(vale, "owns", 0, 1);
        sentenceFault(vale, "of n", 3, 3);
        sentenceFault(vale, "by z", 3, 3);
        sentenceFault(vale, "lost and by abcdefg or #", 12, 3);
        sentenceFault(vale, filled("lost", 201), 200, 1);
        sentenceFault(vale, filled("lost or", 198) + "joint", 200, 1);
        Check.due("P38 200 bytes", Check.sentence(vale, filled("lost", 200)), 1);
        Check.due("P39 a sentence", vale.said(NONE), 0);
    }

    private static String times(String part, int n) {
        StringBuilder all = new StringBuilder();
        for (int i = 0; i < n; i++) {
            all.append(part);
        }
        return all.toString();
    }

    private static void nesting() {
        EchoVale vale = Check.vale(TWO);
        Check.due("P38 ones", Check.sentence(vale, "not(lost or of a)and worth=1 or by a"), 6);
        Check.due("P38 eight within", Check.sentence(vale, times("not ", 7) + "lost"), 8);
        sentenceFault(vale, times("not ", 8) + "lost", 32, 4);
        sentenceFault(vale, times("not ", 8) + "x", 32, 1);
        Check.due("P38 eight brackets", Check.sentence(vale, times("(", 7) + "lost" + times(")", 7)), 8);
        sentenceFault(vale, times("(", 8) + "lost" + times(")", 8), 8, 4);
        sentenceFault(vale, times("(", 9) + "lost" + times(")", 9), 8, 4);
        Check.due("P38 twenty", Check.sentence(vale, times("lost or ", 19) + "joint"), 20);
        sentenceFault(vale, times("lost or ", 20) + "joint", 160, 4);
        sentenceFault(vale, times("lost or ", 20) + "or", 160, 1);
        sentenceFault(vale, times("lost or ", 20) + "not joint", 160, 4);
        Check.due("P38 twenty with brackets", Check.sentence(vale, "(lost)and" + times("(lost or not joint)and", 4) + " lost"
            + times(" or lost", 1)), 20);
        Check.due("P5 the count of a good one", vale.fault(), 0);
    }
}
