import java.util.NoSuchElementException;

/** Calls at the edges of what is taken: what is refused there leaves all as it was, and so does any question. */
final class Edge {
    /** Stands for the answer of a call that throws NoSuchElementException. */
    static final long THROWN = Long.MIN_VALUE;
    static final int LEAST = Integer.MIN_VALUE;
    static final int MOST = Integer.MAX_VALUE;

    /** A call with one argument that is looked at; a boolean counts 1 or 0. */
    interface Call {
        long ask(EchoVale vale, int value);
    }

    interface Answer {
        int get();
    }

    private Edge() {
    }

    static long orThrown(Answer answer) {
        try {
            return answer.get();
        } catch (NoSuchElementException e) {
            return THROWN;
        }
    }

    static long bit(boolean answer) {
        return answer ? 1 : 0;
    }

    /** Each value is answered with 'no', and leaves all as it was. */
    static void refused(String what, States.Made made, long no, Call call, int... values) {
        String before = Look.at(made);
        for (int value : values) {
            Check.due(what + " refuses " + value, leaves(what, made, before, call, value), no);
        }
    }

    /** Questions: each value is answered otherwise than with 'no', and leaves all as it was. */
    static void asked(String what, States.Made made, long no, Call call, int... values) {
        String before = Look.at(made);
        for (int value : values) {
            Check.due(what + " takes " + value, leaves(what, made, before, call, value) != no, true);
        }
    }

    private static long leaves(String what, States.Made made, String before, Call call, int value) {
        long[] answer = new long[1];
        States.Made after = () -> {
            EchoVale vale = made.make();
            answer[0] = call.ask(vale, value);
            return vale;
        };
        Check.due(what + " of " + value + " leaves all as it was", Look.at(after), before);
        return answer[0];
    }

    /** Acts: each value is taken. */
    static void done(String what, States.Made made, long no, Call call, int... values) {
        for (int value : values) {
            Check.due(what + " takes " + value, call.ask(made.make(), value) != no, true);
        }
    }

    /** A question that takes from 'low' to 'high' alone. */
    static void askedFrom(String what, States.Made made, long no, int low, int high, Call call) {
        asked(what, made, no, call, inside(low, high));
        refused(what, made, no, call, outside(low, high));
    }

    /** An act that takes from 'low' to 'high' alone. */
    static void doneFrom(String what, States.Made made, long no, int low, int high, Call call) {
        done(what, made, no, call, inside(low, high));
        refused(what, made, no, call, outside(low, high));
    }

    private static int[] inside(int low, int high) {
        int[] all = new int[high - low + 1];
        for (int i = 0; i < all.length; i++) {
            all[i] = low + i;
        }
        return all;
    }

    // Some that come back inside when they are cut to a byte, to five bits, or times a row's length.
    private static int[] outside(int low, int high) {
        return new int[] {low - 1, low - 2, high + 1, high + 2, LEAST, LEAST + low, MOST, low + 256, low + 65536,
            high + (1 << 30), high - 65536};
    }
}
