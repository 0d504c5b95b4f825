/**
 * The edges that each promise names, with the promise's number: the last value that is taken and the first that is
 * refused on each side, and that a refused call, and each question, leaves all as it was. What the answers are is
 * tested beside: here only that there is one.
 */
public final class BoundsTest {
    private static final int NONE = EchoVale.NONE;
    private static final long THROWN = Edge.THROWN;
    private static final States.Made NEW = EchoVale::new;
    private static final States.Made BARE = States::bare;
    private static final States.Made BUSY = States::busy;
    private static final States.Made FULL = States::full;
    private static final States.Made LATE = States::late;
    private static final int CLIFFS = States.CLIFFS;
    private static final int PERSONS = States.PERSONS;
    private static final int[] ANY = {Edge.LEAST, -2, -1, 0, 1, 2, 5, 6, 29, 30, 99, 100, 400, Edge.MOST};

    public static void main(String[] args) {
        newObject();
        states();
        tape();
        reports();
        acts();
        undo();
        camps();
        secrets();
        later();
        nearness();
        pieces();
        years();
        texts();
        sentences();
        images();
        Check.finish("BoundsTest");
    }

    private static void due(String what, long got, long want) {
        Check.due(what, got, want);
    }

    private static void due(String what, boolean got, boolean want) {
        Check.due(what, got, want);
    }

    // Promise 1: an empty VALLEY is what an empty text tells.
    private static void newObject() {
        Check.due("P1 an empty VALLEY", Look.at(() -> {
            EchoVale vale = new EchoVale();
            due("P1 valley() of an empty tape", vale.valley(), 0);
            return vale;
        }), Look.at(NEW));
        for (int what = 0; what <= 8; what++) {
            due("P1 count " + what, new EchoVale().count(what), 0);
        }
    }

    // What the edges below lean on.
    private static void states() {
        due("BUSY: cliffs", BUSY.make().count(2), CLIFFS);
        due("BUSY: persons", BUSY.make().count(3), PERSONS);
        due("BUSY: sayings below 30", BUSY.make().count(5) > 5 && BUSY.make().count(5) < 29, true);
        due("BUSY: sounded", BUSY.make().count(6) > 5, true);
        due("BUSY: fault", BUSY.make().fault(), 3);
        due("BUSY: storms", BUSY.make().storms(0) > 0, true);
        due("BUSY: pieces", BUSY.make().piece(49) > 0, true);
        due("BUSY: a text", BUSY.make().byteAt(0), 'p');
        due("BUSY: a sentence", BUSY.make().said(NONE) > 0, true);
        due("BUSY: acts", BUSY.make().undo(), 7);
        due("BUSY: an image", BUSY.make().restore(0), true);
        due("FULL: sayings", FULL.make().count(5), 30);
        due("LATE: hour", LATE.make().count(4), 400);
        due("LATE: sounded", LATE.make().count(6) > 0, true);
    }

    // Promises 2 and 3.
    private static void tape() {
        for (int bytes = 0; bytes <= 940; bytes++) {
            int length = bytes;
            boolean fits = length + 20 <= 940;
            if (fits) {
                EchoVale vale = taped(length);
                due("P2 feed at " + length, vale.feed(1, 2, 3, 4, 5), length + 20);
                due("P2 bytes behind feed at " + length, vale.count(8), length + 20);
            } else {
                EchoVale vale = taped(length);
                due("P2 feed at " + length, vale.feed(1, 2, 3, 4, 5), NONE);
                due("P2 none come at " + length, vale.count(8), length);
            }
        }
        Edge.refused("P2 feed of a full tape", () -> fullTape(States.busy()), NONE, (v, x) -> v.feed(x, x, x, x, x), ANY);
        due("P2 what was on a full tape stays", fullTapeOfText().valley(), 2);
        int length = States.ON_TAPE.length();
        for (int n = 0; n <= length; n++) {
            EchoVale vale = States.busy();
            due("P3 end " + n, vale.end(n), true);
            due("P3 bytes behind end " + n, vale.count(8), n);
        }
        Edge.refused("P3 end", BUSY, 0, (v, n) -> Edge.bit(v.end(n)), length + 1, length + 2, 940, 941, Edge.MOST, -1, -2,
            Edge.LEAST, length - 65536);
        Edge.refused("P3 end of an empty tape", NEW, 0, (v, n) -> Edge.bit(v.end(n)), -1, 1, 20, Edge.MOST, Edge.LEAST);
        due("P3 end 0 of an empty tape", new EchoVale().end(0), true);
        Check.due("P3 end at all bytes leaves all", Look.at(() -> {
            EchoVale vale = States.busy();
            vale.end(length);
            return vale;
        }), Look.at(BUSY));
        byteOrder();
    }

    private static EchoVale taped(int length) {
        EchoVale vale = new EchoVale();
        StringBuilder text = new StringBuilder();
        while (text.length() < length) {
            text.append(' ');
        }
        Check.tape(vale, text.toString());
        due("bytes fed", vale.count(8), length);
        return vale;
    }

    private static EchoVale fullTape(EchoVale vale) {
        for (int i = 0; i < 47; i++) {
            vale.feed(0x20202020, 0x20202020, 0x20202020, 0x20202020, 0x20202020);
        }
        return vale;
    }

    private static EchoVale fullTapeOfText() {
        EchoVale vale = fullTape(States.busy());
        due("P2 refused", vale.feed(-1, -1, -1, -1, -1), NONE);
        due("P3 end behind the refused feed", vale.end(900), true);
        return vale;
    }

    // Each of the twenty bytes goes where it belongs, 128 to 255, too: as CLIFF, HOUR, FORCE they can be told apart.
    private static void byteOrder() {
        for (int i = 0; i < 20; i++) {
            EchoVale vale = States.busy();
            vale.end(0);
            int[] five = {0x20202020, 0x20202020, 0x20202020, 0x20202020, 0x20202020};
            five[i / 4] ^= (0x20 ^ '#') << 24 - 8 * (i % 4);
            vale.feed(five[0], five[1], five[2], five[3], five[4]);
            due("P2 byte " + i, vale.valley(), -1 - i);
        }
        for (int hour = 0; hour < 256; hour++) {
            EchoVale vale = Check.vale("land 2 2;cliff p 0 0 1 9;");
            vale.feed(hour << 16 | 9 << 8, 0, 0, 0, 0);
            vale.end(3);
            boolean can = hour >= 1 && hour <= 201;
            due("P2 the byte " + hour, vale.pieces(), can ? 3 : 0);
            due("P2 the byte is read as " + hour, vale.piece(0), can ? (hour - 1) * 1000 + 9 : NONE);
        }
    }

    // Promises 6 to 11 and 42.
    private static void reports() {
        Edge.askedFrom("P6 cliff c", BUSY, THROWN, 0, CLIFFS - 1, (v, c) -> Edge.orThrown(() -> v.cliff(c, 0)));
        Edge.askedFrom("P6 cliff what", BUSY, THROWN, 0, 3, (v, what) -> Edge.orThrown(() -> v.cliff(2, what)));
        Edge.refused("P6 cliff without CLIFFS", BARE, THROWN, (v, c) -> Edge.orThrown(() -> v.cliff(c, 0)), ANY);
        Edge.askedFrom("P7 person p", BUSY, THROWN, 0, PERSONS - 1, (v, p) -> Edge.orThrown(() -> v.person(p, 0)));
        Edge.askedFrom("P7 person what", BUSY, THROWN, 0, 5, (v, what) -> Edge.orThrown(() -> v.person(3, what)));
        Edge.refused("P7 person without PERSONS", BARE, THROWN, (v, p) -> Edge.orThrown(() -> v.person(p, 0)), ANY);
        int sayings = BUSY.make().count(5);
        Edge.askedFrom("P8 saying s", BUSY, THROWN, 0, sayings - 1, (v, s) -> Edge.orThrown(() -> v.saying(s, 0)));
        Edge.askedFrom("P8 saying s of 30", FULL, THROWN, 0, 29, (v, s) -> Edge.orThrown(() -> v.saying(s, 5)));
        Edge.askedFrom("P8 saying what", BUSY, THROWN, 0, 7, (v, w) -> Edge.orThrown(() -> v.saying(sayings - 1, w)));
        Edge.refused("P8 saying of nothing said", BARE, THROWN, (v, s) -> Edge.orThrown(() -> v.saying(s, 0)), ANY);
        // A LOUD of 9 comes to p from everywhere here.
        States.Made heard = () -> {
            EchoVale vale = Check.vale("land 2 2;cliff p 0 0 1 9;cliff q 1 1 1 9;person a 0 0;person b 1 1;");
            for (int s = 0; s < 5; s++) {
                vale.says(s % 2, 5, 9);
            }
            return vale;
        };
        Edge.askedFrom("P9 comes s", heard, NONE, 0, 4, (v, s) -> v.comes(s, 0, 0));
        Edge.askedFrom("P9 comes c", heard, NONE, 0, 1, (v, c) -> v.comes(4, c, 1));
        Edge.askedFrom("P9 comes what", heard, NONE, 0, 1, (v, what) -> v.comes(4, 1, what));
        Edge.refused("P9 comes of nothing said", BARE, NONE, (v, x) -> v.comes(x, x, 0), ANY);
        Edge.askedFrom("P10 share p", BUSY, NONE, 0, PERSONS - 1, (v, p) -> v.share(p, sayings - 1));
        Edge.askedFrom("P10 share s", BUSY, NONE, 0, sayings - 1, (v, s) -> v.share(PERSONS - 1, s));
        Edge.refused("P10 share of nothing said", BARE, NONE, (v, x) -> v.share(x, x), ANY);
        int sounded = BUSY.make().count(6);
        Edge.askedFrom("P11 sounded k", BUSY, NONE, 0, sounded - 1, (v, k) -> v.sounded(k, 4));
        Edge.askedFrom("P11 sounded what", BUSY, NONE, 0, 4, (v, what) -> v.sounded(sounded - 1, what));
        Edge.refused("P11 nothing sounded", FULL, NONE, (v, k) -> v.sounded(FULL.make().count(6) + k, 0), 0, 1, 2);
        Edge.refused("P11 nothing sounded at all", BARE, NONE, (v, k) -> v.sounded(k, 0), ANY);
        Edge.askedFrom("P42 count", BUSY, NONE, 0, 8, (v, what) -> v.count(what));
        Edge.askedFrom("P42 count of a new one", NEW, NONE, 0, 8, (v, what) -> v.count(what));
        allThatCanSound();
    }

    // Thirty SAYINGS, given back by six CLIFFS each: the table of what SOUNDED is full.
    private static void allThatCanSound() {
        StringBuilder text = new StringBuilder("land 9 9;person a 0 0;");
        for (int c = 0; c < 6; c++) {
            text.append("cliff ").append((char) ('p' + c)).append(' ').append(c).append(" 0 ").append(c + 1).append(" 9;");
        }
        States.Made made = () -> {
            EchoVale vale = Check.vale(text.toString());
            for (int s = 0; s < 30; s++) {
                vale.says(0, 99, 9);
            }
            vale.on(6);
            return vale;
        };
        due("P11 all that can sound", made.make().count(6), 180);
        int[] last = {29, 5, 6, 7, 1};
        for (int what = 0; what < 5; what++) {
            due("P11 the last of all " + what, made.make().sounded(179, what), last[what]);
            due("P11 behind the last of all " + what, made.make().sounded(180, what), NONE);
        }
        due("P7 HAS of thirty", made.make().person(0, 1), 30 * 99);
        due("P8 the last of thirty SOUNDED by each CLIFF", made.make().saying(29, 6), 6);
        due("P42 nothing more", later(made.make(), 100).count(6), 180);
    }

    private static EchoVale later(EchoVale vale, int hours) {
        vale.on(hours);
        return vale;
    }

    // Promises 12 to 14 and 30.
    private static void acts() {
        for (int at = -12; at <= 112; at++) {
            int cell = at;
            boolean there = at >= 0 && at % 10 < 8 && at / 10 < 7;
            if (there) {
                EchoVale vale = States.busy();
                due("P12 goes to " + at, vale.goes(3, at), true);
                due("P12 is there", vale.person(3, 0), at);
            } else {
                Edge.refused("P12 goes off the land", BUSY, 0, (v, p) -> Edge.bit(v.goes(p, cell)), 0, 3);
            }
        }
        Edge.doneFrom("P12 goes p", BUSY, 0, 0, PERSONS - 1, (v, p) -> Edge.bit(v.goes(p, 67)));
        Edge.refused("P12 goes at", BUSY, 0, (v, at) -> Edge.bit(v.goes(0, at)), Edge.LEAST, Edge.MOST, 256, 65536);
        Edge.refused("P12 goes without PERSONS", BARE, 0, (v, x) -> Edge.bit(v.goes(x, x)), ANY);
        Edge.refused("P12 goes without a land", NEW, 0, (v, x) -> Edge.bit(v.goes(x, x)), ANY);
        due("P12 the last CELL of all", Check.vale("land 10 10;person a 0 0;").goes(0, 99), true);
        due("P12 behind the last CELL of all", Check.vale("land 10 10;person a 0 0;").goes(0, 100), false);
        Edge.doneFrom("P13 says p", BUSY, NONE, 0, PERSONS - 1, (v, p) -> v.says(p, 99, 9));
        Edge.doneFrom("P13 says worth", BUSY, NONE, 1, 99, (v, worth) -> v.says(0, worth, 1));
        Edge.doneFrom("P13 says loud", BUSY, NONE, 1, 9, (v, loud) -> v.says(0, 1, loud));
        Edge.refused("P13 says without PERSONS", BARE, NONE, (v, p) -> v.says(p, 1, 1), ANY);
        Edge.refused("P13 a 31st SAYING", FULL, NONE, (v, p) -> v.says(p, 1, 1), 0, 1, 2, 3);
        thirtieth();
        Edge.doneFrom("P14 on", BUSY, NONE, 1, 100, (v, n) -> v.on(n));
        Edge.doneFrom("P14 on at HOUR 400", LATE, NONE, 1, 100, (v, n) -> v.on(n));
        Edge.refused("P14 no HOUR behind 400", LATE, 0, (v, n) -> v.on(n), 1, 2, 99, 100);
        Edge.doneFrom("P30 drawn", BUSY, NONE, 1, 100, (v, n) -> v.drawn(n, 77));
        Edge.done("P30 drawn by any seed", BUSY, NONE, (v, seed) -> v.drawn(1, seed), ANY);
        Edge.refused("P30 drawn without PERSONS", BARE, NONE, (v, n) -> v.drawn(n, 1), ANY);
        Edge.refused("P30 drawn of a new one", NEW, NONE, (v, n) -> v.drawn(n, 1), ANY);
        lastHours();
    }

    private static void thirtieth() {
        EchoVale vale = Check.vale(States.TEXT);
        for (int s = 0; s < 30; s++) {
            due("P13 the number of SAYING " + s, vale.says(0, 99, 9), s);
            due("P42 SAYINGS", vale.count(5), s + 1);
        }
        due("P13 a 31st SAYING", vale.says(0, 99, 9), NONE);
        due("P15 one of thirty is undone", vale.undo(), 7);
        due("P13 a 30th SAYING again", vale.says(3, 1, 1), 29);
        due("P13 a 31st SAYING again", vale.says(3, 1, 1), NONE);
    }

    // Promises 14 and 30: 400 is the last.
    private static void lastHours() {
        for (int left = 0; left <= 101; left++) {
            for (int n : new int[] {1, 2, 50, 99, 100}) {
                EchoVale vale = Check.vale(States.TEXT);
                for (int hour = 400 - left; hour > 0; hour -= 100) {
                    vale.on(Math.min(100, hour));
                }
                due("hour", vale.count(4), 400 - left);
                boolean draws = n % 2 == 0;
                int went = draws ? vale.drawn(n, left) : vale.on(n);
                due((draws ? "P30 " : "P14 ") + n + " HOURS at " + (400 - left), went, Math.min(n, left));
                due("P42 the HOUR behind", vale.count(4), 400 - left + Math.min(n, left));
            }
        }
        // HOURS that don't go by have no storms, and nobody speaks in them.
        EchoVale vale = States.late();
        due("P30 none went by", vale.drawn(100, 3), 0);
        due("P31 storms of none", vale.storms(0), 0);
        due("P31 SAYINGS of none", vale.storms(1), 0);
        EchoVale before = States.late();
        int acts = before.undo();
        EchoVale after = States.late();
        after.on(100);
        after.drawn(100, 3);
        due("P15 HOURS that don't go by are not to undo", after.undo(), acts);
    }

    // Promise 15.
    private static void undo() {
        Edge.refused("P15 undo of nothing", BARE, NONE, (v, x) -> v.undo(), 0);
        Edge.refused("P15 undo of a new one", NEW, NONE, (v, x) -> v.undo(), 0);
        for (int acts = 0; acts <= 20; acts++) {
            EchoVale vale = Check.vale(States.TEXT);
            for (int i = 0; i < acts; i++) {
                vale.goes(0, i % 8);
            }
            int kept = Math.min(acts, 8);
            for (int more = kept - 1; more >= 0; more--) {
                due("P15 of " + acts + " acts " + kept + " are kept", vale.undo(), more);
            }
            due("P15 none is behind " + acts, vale.undo(), NONE);
            due("P15 none is again", vale.undo(), NONE);
            due("P15 where it was " + kept + " acts ago", vale.person(0, 0), acts == kept ? 10 : (acts - kept - 1) % 8);
        }
        undoneWhole("goes", (v, x) -> Edge.bit(v.goes(0, 55)));
        undoneWhole("says", (v, x) -> v.says(2, 99, 9));
        undoneWhole("on", (v, x) -> v.on(100));
        undoneWhole("goes where it is", (v, x) -> Edge.bit(v.goes(3, v.person(3, 0))));
        undoneWhole("drawn", (v, x) -> v.drawn(100, 12));
        notKept();
    }

    /** With fewer than eight acts kept, what is done and undone leaves all as it was, but what drawn() told. */
    private static void undoneWhole(String what, Edge.Call act) {
        States.Made few = () -> {
            EchoVale vale = States.busy();
            vale.undo();
            return vale;
        };
        States.Made undone = () -> {
            EchoVale vale = few.make();
            due("P15 acts ahead of " + what, act.ask(vale, 0) >= 0, true);
            due("P15 undo of " + what, vale.undo(), 7);
            return vale;
        };
        Check.due("P15 " + what + " is undone", Look.now(undone), Look.now(few));
        Check.due("P15 and all ahead of " + what, afterUndos(undone), afterUndos(few));
    }

    private static String afterUndos(States.Made made) {
        StringBuilder all = new StringBuilder();
        for (int undos = 0; undos <= 8; undos++) {
            int many = undos;
            all.append(Look.now(() -> {
                EchoVale vale = made.make();
                for (int i = 0; i < many; i++) {
                    vale.undo();
                }
                return vale;
            }));
        }
        return all.toString();
    }

    // What is refused, and what is no such act, is not to undo.
    private static void notKept() {
        EchoVale vale = Check.vale(States.TEXT);
        due("P15 one act", vale.goes(0, 7), true);
        vale.goes(0, 8);
        vale.goes(4, 7);
        vale.says(0, 0, 1);
        vale.says(0, 1, 10);
        vale.on(0);
        vale.on(101);
        vale.drawn(0, 1);
        vale.drawn(101, 1);
        vale.camp(0, 5);
        vale.camping(0, 5, 5);
        vale.has(0, 0, 5);
        vale.tells(0, 1, 5, 5, NONE);
        vale.secret(0, 5);
        vale.odds(0, 2, 5);
        vale.image(0);
        Check.claims(vale, "said a 0;");
        Check.sentence(vale, "lost");
        Check.valley(vale, "x");
        due("P15 that one alone", vale.undo(), 0);
        due("P15 where it was", vale.person(0, 0), 10);
        due("P15 none is", vale.undo(), NONE);
    }

    // Promises 16 to 19.
    private static void camps() {
        Edge.askedFrom("P16 camp p", BUSY, NONE, 0, PERSONS - 1, (v, p) -> v.camp(p, 60));
        Edge.askedFrom("P16 camp n", BUSY, NONE, 1, 60, (v, n) -> v.camp(0, n));
        Edge.refused("P16 camp without PERSONS", BARE, NONE, (v, p) -> v.camp(p, 1), ANY);
        Edge.askedFrom("P17 camping p", BUSY, NONE, 0, PERSONS - 1, (v, p) -> v.camping(p, 67, 60));
        Edge.askedFrom("P17 camping n", BUSY, NONE, 1, 60, (v, n) -> v.camping(0, 0, n));
        Edge.askedFrom("P17 camping at, in the last row", BUSY, NONE, 60, 67, (v, at) -> v.camping(0, at, 3));
        Edge.askedFrom("P17 camping at, in the first row", BUSY, NONE, 0, 7, (v, at) -> v.camping(0, at, 3));
        Edge.refused("P17 camping off the land", BUSY, NONE, (v, at) -> v.camping(0, at, 3), 18, 19, 70, 79, 99, 100);
        Edge.askedFrom("P18 has p", BUSY, NONE, 0, PERSONS - 1, (v, p) -> v.has(p, 10, 60));
        Edge.askedFrom("P18 has n", BUSY, NONE, 1, 60, (v, n) -> v.has(0, 8, n));
        for (int camps = -70; camps <= 140; camps++) {
            int bits = camps;
            boolean camp = (camps & ~10) == 0;
            if (camp) {
                Edge.asked("P18 has camps " + camps, BUSY, NONE, (v, p) -> v.has(p, bits, 2), 0, 3);
            } else {
                due("P18 some of " + camps + " have no camp", BUSY.make().has(0, camps, 2), NONE);
            }
        }
        Edge.refused("P18 has camps", BUSY, NONE, (v, camps) -> v.has(0, camps, 2), 1, 4, 16, 32, 64, 11, -1, -6, 10 + 256,
            Edge.LEAST, Edge.LEAST + 10, Edge.MOST, 1 << 30);
        Edge.refused("P18 has without PERSONS", BARE, NONE, (v, p) -> v.has(p, 0, 1), ANY);
        int rests = BUSY.make().rests(5, NONE);
        due("P19 some rest", rests > 0, true);
        Edge.askedFrom("P19 rests k", BUSY, NONE, NONE, rests - 1, (v, k) -> v.rests(5, k));
        Edge.askedFrom("P19 rests n", BUSY, NONE, 1, 60, (v, n) -> v.rests(n, NONE));
        Edge.askedFrom("P19 rests k of a new one", NEW, NONE, NONE, 0, (v, k) -> v.rests(1, k));
        States.Made all = () -> Check.vale("land 2 2;person a 0 0;person b 0 0;person c 0 0;person d 0 0;person e 0 0;"
            + "person f 0 0;camp a 1 1;camp b 1 1;camp c 1 1;camp d 1 1;camp e 1 1;camp f 1 1;");
        due("P19 all of six rest", all.make().rests(1, NONE), 64);
        for (int k = 0; k < 64; k++) {
            due("P19 rising " + k, all.make().rests(60, k), k);
        }
        due("P19 behind the last", all.make().rests(60, 64), NONE);
        due("P18 all six camp", all.make().has(5, 63, 60), 0);
        due("P18 a seventh one", all.make().has(5, 64, 60), NONE);
    }

    // Promises 20 and 21.
    private static void secrets() {
        Edge.askedFrom("P20 tells p", BUSY, NONE, 0, PERSONS - 2, (v, p) -> v.tells(p, 3, 9, 60, NONE));
        Edge.askedFrom("P20 tells q", BUSY, NONE, 1, PERSONS - 1, (v, q) -> v.tells(0, q, 9, 60, NONE));
        Edge.askedFrom("P20 tells loud", BUSY, NONE, 1, 9, (v, loud) -> v.tells(0, 1, loud, 60, NONE));
        Edge.askedFrom("P20 tells n", BUSY, NONE, 1, 60, (v, n) -> v.tells(0, 1, 9, n, NONE));
        for (int p = 0; p < PERSONS; p++) {
            due("P20 tells itself " + p, BUSY.make().tells(p, p, 9, 60, NONE), NONE);
        }
        Edge.refused("P20 tells itself", BUSY, NONE, (v, p) -> v.tells(p, p, 9, 60, NONE), ANY);
        int found = BUSY.make().tells(0, 2, 5, 60, NONE);
        due("P20 some cells", found > 0, true);
        Edge.askedFrom("P20 tells k", BUSY, NONE, NONE, found - 1, (v, k) -> v.tells(0, 2, 5, 60, k));
        Edge.refused("P20 tells with 30 SAYINGS", FULL, NONE, (v, k) -> v.tells(0, 1, 5, 5, k), NONE, 0, 1);
        Edge.refused("P20 tells without PERSONS", BARE, NONE, (v, p) -> v.tells(p, 1, 5, 5, NONE), ANY);
        Edge.askedFrom("P21 secret p", BUSY, NONE, 0, PERSONS - 1, (v, p) -> v.secret(p, 60));
        Edge.askedFrom("P21 secret n", BUSY, NONE, 1, 60, (v, n) -> v.secret(0, n));
        Edge.refused("P21 secret with 30 SAYINGS", FULL, NONE, (v, p) -> v.secret(p, 5), 0, 1, 2, 3);
        Edge.refused("P21 secret without PERSONS", BARE, NONE, (v, p) -> v.secret(p, 5), ANY);
        EchoVale one = FULL.make();
        one.undo();
        one.undo();
        due("P20 tells with 29 SAYINGS", one.tells(0, 1, 5, 5, NONE) >= 0, true);
        due("P21 secret with 29 SAYINGS", one.secret(0, 5) >= 0, true);
    }

    // Promises 22 to 25.
    private static void later() {
        States.Made soon = () -> {
            EchoVale vale = Check.vale("land 2 2;cliff p 0 0 1 9;person a 0 0;person b 1 1;");
            vale.says(1, 5, 9);
            vale.says(0, 5, 9);
            return vale;
        };
        Edge.askedFrom("P22 next n", soon, NONE, 1, 100, (v, n) -> v.next(n));
        Edge.refused("P22 nothing SOUNDS", BARE, NONE, (v, n) -> v.next(n), ANY);
        Edge.askedFrom("P23 heirs s", soon, NONE, 0, 1, (v, s) -> v.heirs(s, 1));
        Edge.askedFrom("P23 heirs s of 30", FULL, NONE, 0, 29, (v, s) -> v.heirs(s, 60));
        Edge.askedFrom("P23 heirs n", soon, NONE, 1, 60, (v, n) -> v.heirs(1, n));
        Edge.refused("P23 heirs of nothing said", BARE, NONE, (v, s) -> v.heirs(s, 1), ANY);
        Edge.askedFrom("P24 when p", soon, NONE, 0, 1, (v, p) -> v.when(p, 1, 1));
        Edge.askedFrom("P24 when s", soon, NONE, 0, 1, (v, s) -> v.when(1, s, 1));
        Edge.askedFrom("P24 when n", soon, NONE, 1, 100, (v, n) -> v.when(0, 0, n));
        Edge.refused("P24 when of nothing said", BARE, NONE, (v, x) -> v.when(x, x, 1), ANY);
        Edge.askedFrom("P25 meets p", BUSY, NONE, 0, PERSONS - 1, (v, p) -> v.meets(p, 3, 60));
        Edge.askedFrom("P25 meets q", BUSY, NONE, 0, PERSONS - 1, (v, q) -> v.meets(3, q, 60));
        Edge.askedFrom("P25 meets n", BUSY, NONE, 1, 60, (v, n) -> v.meets(0, 0, n));
        Edge.refused("P25 meets without PERSONS", BARE, NONE, (v, p) -> v.meets(p, p, 1), ANY);
    }

    // Promises 26, 33, 34 and 35. All of this land is within 9 of a CLIFF, and CELL 33 is felt.
    private static void nearness() {
        for (int at = -12; at <= 112; at++) {
            boolean there = at >= 0 && at % 10 < 8 && at / 10 < 7;
            due("P26 nearest to " + at, BUSY.make().nearest(at, 9) != NONE, there);
            due("P34 reach from " + at, BUSY.make().reach(at, 9) != NONE, there);
        }
        Edge.askedFrom("P26 nearest at, in the last row", BUSY, NONE, 60, 67, (v, at) -> v.nearest(at, 9));
        // No CLIFF gives back what is below 1; above it promise 26 has no bound. CELL 33 is on felt, 4 from p.
        Edge.asked("P26 nearest loud", BUSY, NONE, (v, loud) -> v.nearest(11, loud), 1, 2, 9, 10, 11, 256, Edge.MOST);
        Edge.refused("P26 nearest loud", BUSY, NONE, (v, loud) -> v.nearest(11, loud), 0, -1, -2, -256, Edge.LEAST);
        Edge.asked("P26 nearest loud on felt", BUSY, NONE, (v, loud) -> v.nearest(33, loud), 6, 9, 10, 11, Edge.MOST);
        Edge.refused("P26 nearest loud on felt", BUSY, NONE, (v, loud) -> v.nearest(33, loud), 5, 2, 1, 0, -1, -2,
            Edge.LEAST, Edge.LEAST + 1, Edge.LEAST + 2);
        Edge.refused("P26 nearest without CLIFFS", BARE, NONE, (v, at) -> v.nearest(at, 9), ANY);
        Edge.refused("P26 nearest without a land", NEW, NONE, (v, at) -> v.nearest(at, 9), ANY);
        Edge.askedFrom("P33 poorest", BUSY, NONE, 0, 1, (v, most) -> v.poorest(most));
        Edge.refused("P33 poorest without PERSONS", BARE, NONE, (v, most) -> v.poorest(most), ANY);
        Edge.askedFrom("P34 reach at, in the last row", BUSY, NONE, 60, 67, (v, at) -> v.reach(at, 1));
        Edge.askedFrom("P34 reach loud", BUSY, NONE, 1, 9, (v, loud) -> v.reach(0, loud));
        Edge.asked("P34 reach without CLIFFS", BARE, NONE, (v, at) -> v.reach(at, 9), 0, 67);
        Edge.refused("P34 reach without a land", NEW, NONE, (v, at) -> v.reach(at, 9), ANY);
        Edge.askedFrom("P35 hears c", BUSY, NONE, 0, CLIFFS - 1, (v, c) -> v.hears(c, 9));
        Edge.askedFrom("P35 hears force", BUSY, NONE, 1, 9, (v, force) -> v.hears(2, force));
        Edge.refused("P35 hears without CLIFFS", BARE, NONE, (v, c) -> v.hears(c, 9), ANY);
    }

    // Promises 27 and 28.
    private static void pieces() {
        for (int bytes = 0; bytes <= 30; bytes++) {
            int[] told = new int[bytes];
            for (int i = 0; i + 2 < bytes; i += 3) {
                told[i + 1] = 2;
                told[i + 2] = 5;
            }
            boolean good = bytes >= 3 && bytes <= 18 && bytes % 3 == 0;
            emptied("P27 pieces of " + bytes + " bytes", good, told);
        }
        for (int cliff = 0; cliff < 256; cliff++) {
            emptied("P27 pieces of CLIFF " + cliff, cliff < CLIFFS, cliff, 2, 5);
        }
        for (int force = 0; force < 256; force++) {
            emptied("P27 pieces of FORCE " + force, force >= 1 && force <= 9, 0, 2, force);
        }
        for (int hour = 0; hour < 256; hour += hour == 0 ? 1 : 127) {
            emptied("P27 pieces of HOUR " + hour, true, 0, hour, 5);
        }
        emptied("P27 the last of six", false, 0, 2, 5, 0, 2, 5, 0, 2, 5, 0, 2, 5, 0, 2, 5, 0, 2, 10);
        emptied("P27 the last of six", false, 0, 2, 5, 0, 2, 5, 0, 2, 5, 0, 2, 5, 0, 2, 5, 3, 2, 5);
        emptied("P27 the first of six", false, 0, 2, 0, 0, 2, 5, 0, 2, 5, 0, 2, 5, 0, 2, 5, 0, 2, 5);
        due("P27 pieces without CLIFFS", Check.pieces(States.bare(), 0, 2, 5), NONE);
        due("P27 pieces of a new one", Check.pieces(new EchoVale(), 0, 2, 5), NONE);
        Edge.askedFrom("P28 piece", BUSY, NONE, 0, 49, (v, k) -> v.piece(k));
        Edge.refused("P28 piece ahead of any", LATE, NONE, (v, k) -> v.piece(k), ANY);
        States.Made none = () -> {
            EchoVale vale = States.busy();
            due("P27 no way", Check.pieces(vale, 0, 0, 5), 0);
            return vale;
        };
        Edge.refused("P28 piece of no way", none, NONE, (v, k) -> v.piece(k), ANY);
    }

    /** PIECES empty the tape, and leave all else but what piece() tells; that, too, if they are not as told. */
    private static void emptied(String what, boolean good, int... told) {
        int[] answer = new int[1];
        States.Made after = () -> {
            EchoVale vale = States.busy();
            answer[0] = Check.pieces(vale, told);
            due(what + ": the tape", vale.count(8), 0);
            due(what + ": the FAULT", vale.fault(), 3);
            return vale;
        };
        String now = Look.now(after);
        due(what + " are taken", answer[0] >= 0, good);
        due(what + " are answered", answer[0] >= NONE, true);
        Check.due(what + " leave the VALLEY", now, Look.now(BUSY));
        if (!good) {
            Check.due(what + " leave all", Look.butTapeAndFault(after), Look.butTapeAndFault(BUSY));
        }
    }

    // Promises 31 and 32.
    private static void years() {
        Edge.askedFrom("P31 storms", BUSY, NONE, 0, 1, (v, what) -> v.storms(what));
        Edge.refused("P31 storms ahead of any", LATE, NONE, (v, what) -> v.storms(what), ANY);
        EchoVale vale = States.busy();
        int storms = vale.storms(0);
        int sayings = vale.storms(1);
        due("P30 refused", vale.drawn(0, 5), NONE);
        due("P30 refused", vale.drawn(101, 5), NONE);
        vale.odds(0, 40, 5);
        vale.on(30);
        due("P31 storms of the latest that was not NONE", vale.storms(0), storms);
        due("P31 SAYINGS of the latest that was not NONE", vale.storms(1), sayings);
        Edge.askedFrom("P32 odds p", BUSY, NONE, 0, PERSONS - 1, (v, p) -> v.odds(p, 40, 5));
        Edge.askedFrom("P32 odds n", BUSY, NONE, 1, 40, (v, n) -> v.odds(0, n, 5));
        Edge.asked("P32 odds seed", BUSY, NONE, (v, seed) -> v.odds(0, 3, seed), ANY);
        Edge.refused("P32 odds without PERSONS", BARE, NONE, (v, p) -> v.odds(p, 1, 1), ANY);
    }

    // Promises 36 and 37.
    private static void texts() {
        int sayings = BUSY.make().count(5);
        Edge.refused("P36 write", BUSY, NONE, (v, s) -> v.write(s), -1, -2, sayings, sayings + 1, 30, Edge.LEAST, Edge.MOST);
        Edge.done("P36 write", BUSY, NONE, (v, s) -> v.write(s), 0, 1, sayings - 1);
        Edge.refused("P36 write of nothing said", BARE, NONE, (v, s) -> v.write(s), ANY);
        Edge.done("P36 write of 30", FULL, NONE, (v, s) -> v.write(s), 0, 29);
        int bytes = Check.written(BUSY.make()).length();
        Edge.askedFrom("P37 byteAt", BUSY, NONE, 0, bytes - 1, (v, i) -> v.byteAt(i));
        Edge.refused("P37 byteAt ahead of any", LATE, NONE, (v, i) -> v.byteAt(i), ANY);
        EchoVale quiet = FULL.make();
        quiet.undo();
        due("P36 what has not SOUNDED", quiet.write(29), 0);
        due("P37 no byte of an empty text", quiet.byteAt(0), NONE);
        longestText();
    }

    // Six CLIFFS with the longest NAMES, and HOURS of three digits.
    private static void longestText() {
        StringBuilder text = new StringBuilder("land 9 9;person a 0 0;");
        StringBuilder wanted = new StringBuilder();
        for (int c = 0; c < 6; c++) {
            char letter = (char) ('p' + c);
            text.append("cliff abcdef").append(letter).append(' ').append(c).append(" 0 ").append(c + 1).append(" 9;");
            wanted.append("abcdef").append(letter).append(' ').append(395 + c).append(' ').append(9 - c / 2).append(';');
        }
        EchoVale vale = Check.vale(text.toString());
        vale.on(100);
        vale.on(100);
        vale.on(100);
        vale.on(94);
        vale.says(0, 1, 9);
        vale.on(100);
        due("P36 the longest text", vale.write(0), 84);
        Check.due("P37 the longest text", Check.written(vale), wanted.toString());
        due("P37 behind the longest text", vale.byteAt(84), NONE);
    }

    // Promises 38 and 39.
    private static void sentences() {
        States.Made all = () -> {
            EchoVale vale = States.full();
            Check.sentence(vale, "worth>0");
            return vale;
        };
        Edge.askedFrom("P39 said k", all, NONE, NONE, 29, (v, k) -> v.said(k));
        Edge.refused("P39 said without a SENTENCE", FULL, NONE, (v, k) -> v.said(k), ANY);
        Edge.refused("P39 said of a new one", NEW, NONE, (v, k) -> v.said(k), ANY);
        States.Made nothing = () -> {
            EchoVale vale = States.bare();
            Check.sentence(vale, "not lost");
            return vale;
        };
        Edge.askedFrom("P39 said of nothing said", nothing, NONE, NONE, NONE, (v, k) -> v.said(k));
    }

    // Promises 40 and 41.
    private static void images() {
        Edge.doneFrom("P40 image", BUSY, 0, 0, 1, (v, k) -> Edge.bit(v.image(k)));
        Edge.refused("P41 restore", BUSY, 0, (v, k) -> Edge.bit(v.restore(k)), -1, -2, 1, 2, 3, Edge.LEAST, Edge.MOST);
        Edge.refused("P41 restore of a new one", NEW, 0, (v, k) -> Edge.bit(v.restore(k)), ANY);
        Edge.done("P41 restore", BUSY, 0, (v, k) -> Edge.bit(v.restore(k)), 0);
        for (int place = 0; place < 2; place++) {
            int k = place;
            States.Made back = () -> {
                EchoVale vale = States.busy();
                vale.image(k);
                due("P40 an image leaves what can be undone", vale.undo(), 7);
                // Another VALLEY, in which all tables get full.
                Check.valley(vale, "land 3 3;cliff p 0 0 1 1;cliff q 0 1 1 1;cliff r 1 0 1 1;cliff s 1 1 1 1;"
                    + "person x 0 0;person y 0 0;person z 0 0;person k 0 0;person m 0 0;person n 0 0;");
                for (int s = 0; s < 30; s++) {
                    vale.says(5, 5, 5);
                }
                vale.on(9);
                due("much SOUNDED", vale.count(6), 120);
                Check.sentence(vale, "lost");
                Check.tape(vale, States.ON_TAPE);
                due("P41 restore of place " + k, vale.restore(k), true);
                due("P41 nothing can be undone", vale.undo(), NONE);
                return vale;
            };
            Check.due("P40 and P41 VALLEY, HOUR, places, SAYINGS and SENTENCE of place " + k, Look.now(back), Look.now(BUSY));
            Check.due("P41 what other calls told last stays", Look.told(back), Look.told(BUSY));
            due("P41 the tape stays", back.make().count(8), States.ON_TAPE.length());
            due("P41 what is on the tape stays", back.make().valley(), 2);
        }
        // What is done behind an image, and another image, leave it alone.
        States.Made twice = () -> {
            EchoVale vale = States.busy();
            vale.image(1);
            vale.restore(1);
            vale.says(0, 5, 5);
            vale.goes(0, 0);
            vale.on(50);
            vale.drawn(5, 5);
            Check.sentence(vale, "joint");
            vale.image(0);
            Check.valley(vale, "");
            vale.restore(1);
            return vale;
        };
        Check.due("P40 an image stays as it was kept", Look.now(twice), Look.now(BUSY));
        States.Made empty = () -> {
            EchoVale vale = new EchoVale();
            vale.image(1);
            Check.valley(vale, States.TEXT);
            Check.sentence(vale, "lost");
            vale.says(0, 1, 1);
            vale.on(1);
            vale.restore(1);
            return vale;
        };
        Check.due("P40 an image of an empty VALLEY", Look.now(empty), Look.now(NEW));
    }
}
