import java.util.NoSuchElementException;

/** All that can be seen of an object, as a text. Each part is looked at in an object made anew. */
final class Look {
    private static final int NONE = EchoVale.NONE;
    private static final int TAPE = 8;
    private static final int SAYINGS_A_PART = 10;
    private static final int SOUNDS_A_PART = 50;

    private Look() {
    }

    static String at(States.Made made) {
        EchoVale vale = made.make();
        return "tape " + vale.count(TAPE) + " fault " + vale.fault() + behindTape(made) + butTapeAndFault(made);
    }

    /** For calls that empty the tape. */
    static String butTapeAndFault(States.Made made) {
        return now(made) + told(made) + undone(made) + kept(made);
    }

    /** VALLEY, HOUR, places, SAYINGS and SENTENCE. */
    static String now(States.Made made) {
        StringBuilder text = new StringBuilder("\n");
        valley(made.make(), text);
        sayings(made, text);
        sounds(made, text);
        sentence(made.make(), text);
        later(made.make(), text);
        return text.toString();
    }

    // What is still to come: moves, snow, what SOUNDS.
    private static void later(EchoVale vale, StringBuilder text) {
        for (int i = 0; i < 12; i++) {
            vale.on(i < 8 ? 3 : 60);
            text.append("\nlater ");
            brief(vale, text);
            text.append(" cliff ").append(cliff(vale, 0, 3));
        }
    }

    /** What other calls told last. */
    static String told(States.Made made) {
        EchoVale vale = made.make();
        StringBuilder text = new StringBuilder("\nstorms ");
        text.append(vale.storms(0)).append(' ').append(vale.storms(1)).append("\npieces");
        for (int k = 0; k < 51; k++) {
            text.append(' ').append(vale.piece(k));
        }
        return text.append("\nwritten ").append(Check.written(vale)).toString();
    }

    private static void valley(EchoVale vale, StringBuilder text) {
        for (int what = 0; what < TAPE; what++) {
            text.append(vale.count(what)).append(' ');
        }
        for (int c = 0; c < 7; c++) {
            text.append("\ncliff");
            for (int what = 0; what < 4; what++) {
                text.append(' ').append(cliff(vale, c, what));
            }
        }
        for (int p = 0; p < 7; p++) {
            text.append("\nperson");
            for (int what = 0; what < 6; what++) {
                text.append(' ').append(person(vale, p, what));
            }
        }
        // Felt, by what is reached from where.
        for (int at = 0; at < 100; at++) {
            text.append(' ').append(vale.reach(at, 3));
        }
        text.append(" meets");
        for (int p = 1; p < 6; p++) {
            text.append(' ').append(vale.meets(0, p, 60));
        }
        text.append(" next ").append(vale.next(100));
    }

    private static void sayings(States.Made made, StringBuilder text) {
        EchoVale vale = made.make();
        int many = vale.count(5);
        for (int s = 0; s < many; s++) {
            vale = s % SAYINGS_A_PART == 0 ? made.make() : vale;
            text.append("\nsaying");
            for (int what = 0; what < 8; what++) {
                text.append(' ').append(vale.saying(s, what));
            }
            for (int c = 0; c < vale.count(2); c++) {
                text.append(" by ").append(vale.comes(s, c, 0)).append(' ').append(vale.comes(s, c, 1));
            }
            for (int p = 0; p < 6; p++) {
                text.append(" share ").append(vale.share(p, s));
            }
        }
    }

    private static void sounds(States.Made made, StringBuilder text) {
        EchoVale vale = made.make();
        int many = vale.count(6);
        for (int k = 0; k < many; k++) {
            vale = k % SOUNDS_A_PART == 0 ? made.make() : vale;
            text.append("\nsounded");
            for (int what = 0; what < 5; what++) {
                text.append(' ').append(vale.sounded(k, what));
            }
        }
    }

    private static void sentence(EchoVale vale, StringBuilder text) {
        text.append("\nsaid ").append(vale.said(NONE));
        for (int k = 0; k < 30; k++) {
            text.append(' ').append(vale.said(k));
        }
    }

    /** What the object is like behind each undo(), up to the one that has nothing to undo. */
    private static String undone(States.Made made) {
        EchoVale vale = made.make();
        StringBuilder text = new StringBuilder();
        int more = 0;
        for (int i = 0; i < 10 && more != NONE; i++) {
            more = vale.undo();
            text.append("\nundo ").append(more);
            brief(vale, text);
        }
        return text.toString();
    }

    private static String kept(States.Made made) {
        EchoVale vale = made.make();
        StringBuilder text = new StringBuilder();
        for (int k = 0; k < 2; k++) {
            text.append("\nrestore ").append(vale.restore(k));
            brief(vale, text);
            sentence(vale, text);
        }
        return text.toString();
    }

    private static String behindTape(States.Made made) {
        EchoVale vale = made.make();
        StringBuilder text = new StringBuilder(" valley ");
        text.append(vale.valley()).append(' ').append(vale.fault());
        brief(vale, text);
        return text.toString();
    }

    private static void brief(EchoVale vale, StringBuilder text) {
        for (int what = 0; what < TAPE; what++) {
            text.append(' ').append(vale.count(what));
        }
        for (int p = 0; p < 6; p++) {
            text.append(" person ").append(person(vale, p, 0)).append(' ').append(person(vale, p, 1));
        }
    }

    private static String cliff(EchoVale vale, int c, int what) {
        try {
            return String.valueOf(vale.cliff(c, what));
        } catch (NoSuchElementException e) {
            return "-";
        }
    }

    private static String person(EchoVale vale, int p, int what) {
        try {
            return String.valueOf(vale.person(p, what));
        } catch (NoSuchElementException e) {
            return "-";
        }
    }
}
