/** What the tests share: feeding a text, and counting what is not as due. */
final class Check {
    private static int wrong;
    private static int made;

    private Check() {
    }

    static void due(String what, long got, long want) {
        made++;
        if (got != want) {
            wrong++;
            System.out.println(what + " answered " + got + ", due is " + want);
        }
    }

    static void due(String what, boolean got, boolean want) {
        due(what, got ? 1 : 0, want ? 1 : 0);
    }

    static void due(String what, String got, String want) {
        made++;
        if (!got.equals(want)) {
            wrong++;
            tellDifference(what, got.split("\n", -1), want.split("\n", -1));
        }
    }

    private static void tellDifference(String what, String[] got, String[] want) {
        for (int i = 0; i < Math.max(got.length, want.length); i++) {
            String one = i < got.length ? got[i] : "nothing";
            String other = i < want.length ? want[i] : "nothing";
            if (!one.equals(other)) {
                System.out.println(what + " answered in line " + i + " '" + one + "', due is '" + other + "'");
                return;
            }
        }
    }

    /** Makes the tape hold just these bytes, each a char of the text. */
    static void tape(EchoVale vale, String text) {
        vale.end(0);
        StringBuilder padded = new StringBuilder(text);
        while (padded.length() % 20 != 0) {
            padded.append((char) 0);
        }
        for (int i = 0; i < padded.length(); i += 20) {
            vale.feed(word(padded, i), word(padded, i + 4), word(padded, i + 8), word(padded, i + 12),
                word(padded, i + 16));
        }
        vale.end(text.length());
    }

    private static int word(CharSequence text, int i) {
        return text.charAt(i) << 24 | text.charAt(i + 1) << 16 | text.charAt(i + 2) << 8 | text.charAt(i + 3);
    }

    static int valley(EchoVale vale, String text) {
        tape(vale, text);
        return vale.valley();
    }

    static EchoVale vale(String text) {
        EchoVale vale = new EchoVale();
        int lines = valley(vale, text);
        due("lines without a fault in " + text, lines >= 0, true);
        return vale;
    }

    static int claims(EchoVale vale, String text) {
        tape(vale, text);
        return vale.claims();
    }

    static int sentence(EchoVale vale, String text) {
        tape(vale, text);
        return vale.sentence();
    }

    /** SAYINGS of which the sentence may be said, as bits. */
    static int saidBits(EchoVale vale, String text) {
        due("ones of " + text, sentence(vale, text) > 0, true);
        int bits = 0;
        int many = vale.said(EchoVale.NONE);
        for (int k = 0; k < many; k++) {
            bits |= 1 << vale.said(k);
        }
        due("said behind the last", vale.said(many), EchoVale.NONE);
        return bits;
    }

    static int pieces(EchoVale vale, int... bytes) {
        StringBuilder text = new StringBuilder();
        for (int b : bytes) {
            text.append((char) b);
        }
        tape(vale, text.toString());
        return vale.pieces();
    }

    static String written(EchoVale vale) {
        StringBuilder text = new StringBuilder();
        for (int i = 0; vale.byteAt(i) != EchoVale.NONE; i++) {
            text.append((char) vale.byteAt(i));
        }
        return text.toString();
    }

    static void finish(String name) {
        System.out.println(name + ": " + made + " checks, " + wrong + " wrong");
        if (wrong > 0 || made == 0) {
            System.exit(1);
        }
    }
}
