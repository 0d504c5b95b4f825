/** The edges of what happens in an HOUR, and of what is asked of later ones: the sections 2 and 3 of the document. */
public final class RuleBoundsTest {
    private static final int NONE = EchoVale.NONE;
    // a says it by p alone, at 40; q, which hears of it from p alone, SOUNDS at 60 and r at 100: b hears q alone, c r.
    private static final String CHAIN = "land 10 8;cliff p 0 0 40 9;cliff q 9 0 20 9;cliff r 9 4 40 9;person a 0 1;"
        + "person b 9 1;person c 9 5;camp a 0 7;camp b 0 2;camp c 9 2;";

    public static void main(String[] args) {
        howLoud();
        howFarOnward();
        howFarOnwardInARow();
        force();
        snowByHour();
        storms();
        whoHears();
        onceOnly();
        orderOfAnHour();
        moves();
        shares();
        lastHourAhead();
        lastHourOfAll();
        restsAndTold();
        drawnAndOdds();
        waysOfPieces();
        sentences();
        manySentences();
        likeOnes();
        lastCell();
        sixthCliff();
        digits();
        manyCalls();
        Check.finish("RuleBoundsTest");
    }

    private static void due(String what, long got, long want) {
        Check.due(what, got, want);
    }

    private static EchoVale passed(EchoVale vale, int hours) {
        for (int left = hours; left > 0; left -= 100) {
            vale.on(Math.min(100, left));
        }
        return vale;
    }

    // Each CLIFF no farther than it is LOUD; felt takes 2, and no more than there is.
    private static void howLoud() {
        for (int felt = 0; felt <= 1; felt++) {
            for (int at = 0; at < 100; at++) {
                String text = "land 10 10;cliff p 0 0 7 9;person a " + at % 10 + " " + at / 10 + ";"
                    + (felt == 1 ? "felt " + at % 10 + " " + at / 10 + ";" : "");
                for (int loud = 1; loud <= 9; loud++) {
                    EchoVale vale = Check.vale(text);
                    vale.says(0, 1, loud);
                    int left = felt == 0 ? loud : loud == 1 ? 0 : loud - 2;
                    int far = at % 10 + at / 10;
                    boolean comes = left >= 1 && far <= left;
                    String what = "LOUD " + loud + " from " + at + (felt == 1 ? " on felt" : "");
                    due("P8 left of " + what, vale.saying(0, 4), left);
                    due("P9 what comes of " + what, vale.comes(0, 0, 1), comes ? left - far / 2 : NONE);
                    due("P9 when it comes of " + what, vale.comes(0, 0, 0), comes ? 7 : NONE);
                    due("P34 reach of " + what, vale.reach(at, loud), comes ? 1 : 0);
                    due("P26 nearest of " + what, vale.nearest(at, loud), comes ? 0 : NONE);
                }
            }
        }
    }

    // p at (4, 5) SOUNDS with so much of what is said 9 below it; q stands so far above it: no farther than FORCE, and
    // FORCE less 1 and less half of that, below 1 nothing.
    private static void howFarOnward() {
        int[][] comes = {{}, {0, 0}, {0, 1, 0}, {0, 2, 1, 1, 0}, {0, 3, 2, 2, 1, 0}, {0, 4, 3, 3, 2, 2, 0, 0}};
        for (int force = 1; force <= 5; force++) {
            for (int far = 1; far < comes[force].length; far++) {
                String q = far <= 5 ? "4 " + (5 - far) : 4 - (far - 5) + " 0";
                EchoVale vale = Check.vale("land 10 10;cliff p 4 5 1 " + force + ";cliff q " + q + " 40 9;person a 9 9;");
                due("said", vale.says(0, 9, 9), 0);
                due("P9 too far by itself", vale.comes(0, 1, 0), NONE);
                due("P9 p", vale.comes(0, 0, 1), 5);
                vale.on(1);
                int what = comes[force][far];
                String of = " of FORCE " + force + " from " + far;
                due("P11 p SOUNDS", vale.sounded(0, 3), force);
                due("P9 what comes onward" + of, vale.comes(0, 1, 1), what == 0 ? NONE : what);
                due("P9 when it comes onward" + of, vale.comes(0, 1, 0), what == 0 ? NONE : 41);
                vale.on(40);
                due("P11 q SOUNDS" + of, vale.sounded(1, 3), what == 0 ? NONE : what);
            }
        }
    }

    // The same in a row that turns at the land's edge: a says it with LOUD 9 so far ahead of p, and q, beyond 9, is so far
    // behind p.
    private static void howFarOnwardInARow() {
        for (int ahead = 0; ahead <= 9; ahead++) {
            for (int strength = 1; strength <= 9; strength++) {
                for (int far = 10 - ahead; far <= 18 - ahead && far > 0; far++) {
                    int x = Math.min(9, ahead + far);
                    EchoVale vale = Check.vale("land 10 10;cliff p " + ahead + " 0 1 " + strength + ";cliff q " + x + " "
                        + (ahead + far - x) + " 2 9;person a 0 0;");
                    vale.says(0, 9, 9);
                    int force = Math.min(strength, 9 - ahead / 2);
                    int what = force - 1 - far / 2;
                    boolean comes = far <= force && what >= 1;
                    due("P9 too far by itself", vale.comes(0, 1, 0), NONE);
                    vale.on(1);
                    due("P11 FORCE at p", vale.sounded(0, 3), force);
                    due("P9 what FORCE " + force + " sends so far: " + far, vale.comes(0, 1, 1), comes ? what : NONE);
                }
            }
        }
    }

    // What comes, at most STRENGTH less snow of that HOUR; below 1 it does not SOUND.
    private static void force() {
        for (int strength = 1; strength <= 9; strength++) {
            for (int snow = 0; snow <= 9; snow++) {
                for (int loud = 1; loud <= 9; loud += 4) {
                    EchoVale vale = Check.vale("land 2 2;cliff p 0 0 2 " + strength + ";person a 0 0;snow 2 " + snow + ";snow 3 0;");
                    vale.says(0, 5, loud);
                    vale.on(2);
                    int force = Math.min(loud, strength - snow);
                    String what = " of LOUD " + loud + ", STRENGTH " + strength + ", snow " + snow;
                    due("P42 SOUNDED" + what, vale.count(6), force >= 1 ? 1 : 0);
                    due("P11 FORCE" + what, vale.sounded(0, 3), force >= 1 ? force : NONE);
                    due("P6 what it is now" + what, vale.cliff(0, 3), Math.max(0, strength - snow));
                    due("P8 times" + what, vale.saying(0, 6), force >= 1 ? 1 : 0);
                    due("P9 what comes all the same" + what, vale.comes(0, 0, 1), loud);
                    vale.on(50);
                    due("P42 once, whether it SOUNDS or not" + what, vale.count(6), force >= 1 ? 1 : 0);
                }
            }
        }
    }

    // Snow is that of the latest HOUR told, in any order of LINES; 0 ahead of all.
    private static void snowByHour() {
        EchoVale vale = Check.vale("land 2 2;cliff p 0 0 1 9;snow 200 9;snow 3 5;snow 1 2;snow 7 0;");
        int[] wanted = {0, 2, 2, 5, 5, 5, 5, 0, 0};
        for (int hour = 0; hour < wanted.length; hour++) {
            due("P42 snow of HOUR " + hour, vale.count(7), wanted[hour]);
            due("P6 what it is at HOUR " + hour, vale.cliff(0, 3), 9 - wanted[hour]);
            vale.on(1);
        }
        passed(vale, 190);
        due("hour", vale.count(4), 199);
        due("P42 snow of HOUR 199", vale.count(7), 0);
        vale.on(1);
        due("P42 snow of HOUR 200", vale.count(7), 9);
        passed(vale, 200);
        due("P42 snow of HOUR 400", vale.count(7), 9);
        due("P42 snow of HOUR 0", Check.vale("snow 0 4;").count(7), 4);
        due("P6 snow of HOUR 0", Check.vale("land 2 2;cliff p 0 0 1 9;snow 0 4;").cliff(0, 3), 5);
    }

    // A storm of 0 to 4 in the first HOUR, by the draws of each seed; below 1 it does not SOUND.
    private static void storms() {
        boolean[] met = new boolean[5];
        for (int seed = -300; seed < 300; seed++) {
            int x = seed * 1103515245 + 12345;
            int y = x * 1103515245 + 12345;
            boolean storm = (x >>> 8) % 4 == 0;
            int less = storm ? (y >>> 8) % 5 : 0;
            met[less] |= storm;
            for (int strength = 1; strength <= 6; strength++) {
                EchoVale vale = Check.vale("land 2 2;cliff p 0 0 1 " + strength + ";person a 0 0;snow 0 1;");
                vale.says(0, 5, 9);
                due("drawn", vale.drawn(1, seed), 1);
                int force = strength - 1 - less;
                due("P31 storms by seed " + seed, vale.storms(0), storm ? 1 : 0);
                due("P11 FORCE in a storm of " + less, vale.sounded(0, 3), force >= 1 ? force : NONE);
                due("P42 snow in a storm", vale.count(7), 1);
            }
        }
        for (int less = 0; less < 5; less++) {
            due("a storm of " + less + " is among them", met[less] ? 1 : 0, 1);
        }
    }

    // All PERSONS no farther than FORCE; if there are none, it stays whose it was.
    private static void whoHears() {
        for (int force = 1; force <= 9; force++) {
            for (int far = 0; far <= 18; far++) {
                int x = Math.min(far, 9);
                EchoVale vale = Check.vale("land 10 10;cliff p 0 0 1 " + force + ";person a 0 0;person b " + x + " " + (far - x) + ";");
                vale.says(0, 7, 9);
                vale.goes(0, 99);
                int hears = far <= force ? 2 : 0;
                due("P35 who hears FORCE " + force + " from " + far, vale.hears(0, force), hears);
                due("P23 heirs of FORCE " + force + " from " + far, vale.heirs(0, 1), hears == 0 ? 1 : 2);
                vale.on(1);
                due("P11 who heard FORCE " + force + " from " + far, vale.sounded(0, 4), hears);
                due("P8 who owns it", vale.saying(0, 5), hears == 0 ? 1 : 2);
                due("P8 who ever heard it", vale.saying(0, 7), hears);
                due("P7 how many b heard", vale.person(1, 4), hears == 0 ? 0 : 1);
                due("P7 how many b owns", vale.person(1, 2), hears == 0 ? 0 : 1);
                due("P10 what a has", vale.share(0, 0), hears == 0 ? 7 : 0);
            }
        }
    }

    // What comes first, of like ones the greater; whether it SOUNDS or not.
    private static void onceOnly() {
        // q and r both send to t, 2 HOURS later each: the greater counts, in any order of CLIFFS.
        String q = "cliff q 4 4 1 9;";
        String r = "cliff r 4 0 1 9;";
        for (String both : new String[] {q + r, r + q}) {
            EchoVale vale = Check.vale("land 10 10;" + both + "cliff t 9 4 2 9;person a 2 2;");
            vale.says(0, 9, 7);
            due("P9 t is too far", vale.comes(0, 2, 0), NONE);
            vale.on(1);
            // Both SOUND with 5; q is 5 from t and sends 2, r is 9 from t and sends nothing.
            due("P9 what comes", vale.comes(0, 2, 1), 2);
            due("P9 when", vale.comes(0, 2, 0), 3);
        }
        // By q at 3 with 1; by r, later, with more: what comes first is given back.
        EchoVale first = Check.vale("land 10 2;cliff q 4 0 1 9;cliff r 6 1 2 9;cliff t 8 0 9 9;person a 0 0;");
        first.says(0, 9, 7);
        due("P9 t is too far", first.comes(0, 2, 0), NONE);
        first.on(1);
        due("P9 by q", first.comes(0, 2, 0), 10);
        due("P9 what comes by q", first.comes(0, 2, 1), 2);
        first.on(1);
        due("P9 by q still", first.comes(0, 2, 0), 10);
        due("P9 what comes by q still", first.comes(0, 2, 1), 2);
        first.on(20);
        due("P42 once each", first.count(6), 3);
        // Of what is said itself at 3, and onward at 3, too: p SOUNDS at 1 and sends to q, which has it by itself.
        EchoVale like = Check.vale("land 5 5;cliff p 0 0 1 9;cliff q 1 0 2 9;person a 0 0;");
        like.says(0, 9, 9);
        like.on(1);
        due("P9 q at 2", like.comes(0, 1, 0), 2);
        due("P9 what is said itself", like.comes(0, 1, 1), 9);
        // An HOUR apart: by itself at 3, onward at 2.
        EchoVale sooner = Check.vale("land 9 2;cliff p 4 0 1 9;cliff s 6 0 1 9;cliff q 8 0 1 9;person a 0 0;");
        sooner.says(0, 9, 6);
        due("P9 s by itself", sooner.comes(0, 1, 0), 1);
        due("P9 q is too far", sooner.comes(0, 2, 0), NONE);
        sooner.on(1);
        // p SOUNDS with 4 and sends 4 less 1 less 2; s SOUNDS with 3 and sends 3 less 1 less 1: like ones.
        due("P9 q by like ones", sooner.comes(0, 2, 1), 1);
    }

    // Moves, then SAYING by SAYING, CLIFF by CLIFF: the last that SOUNDS in an HOUR is what counts.
    private static void orderOfAnHour() {
        EchoVale vale = Check.vale("land 9 9;cliff p 0 0 2 3;cliff q 8 8 2 3;cliff r 8 0 1 3;person a 0 1;person b 8 7;"
            + "person c 4 4;");
        vale.goes(2, 44);
        vale.says(2, 9, 9);
        vale.says(2, 8, 9);
        vale.on(2);
        int[][] wanted = {{0, 2, 1}, {1, 2, 1}, {0, 0, 2}, {0, 1, 2}, {1, 0, 2}, {1, 1, 2}};
        for (int k = 0; k < wanted.length; k++) {
            for (int what = 0; what < 3; what++) {
                due("P11 " + k + "-th that SOUNDED, " + what, vale.sounded(k, what), wanted[k][what]);
            }
        }
        due("P8 q was the last", vale.saying(0, 5), 2);
        due("P8 who ever heard", vale.saying(0, 7), 3);
        // What comes of it comes 1 HOUR later at the soonest, to CLIFFS ahead of it and behind it.
        EchoVale soon = Check.vale("land 9 2;cliff p 0 0 1 9;cliff q 4 0 1 9;cliff r 8 0 1 9;person a 4 1;");
        soon.says(0, 9, 4);
        due("P9 q alone", soon.comes(0, 0, 0), NONE);
        soon.on(1);
        due("P42 q alone", soon.count(6), 1);
        due("P9 p 1 HOUR later", soon.comes(0, 0, 0), 2);
        due("P9 r 1 HOUR later", soon.comes(0, 2, 0), 2);
        soon.on(1);
        due("P42 all of them", soon.count(6), 3);
    }

    // At the HOUR of a move, ahead of all else, it goes there; HOUR 1 and HOUR 200.
    private static void moves() {
        EchoVale vale = Check.vale("land 9 9;cliff p 0 0 1 1;person a 0 0;person b 8 8;move b 1 0 0;move a 1 8 8;"
            + "move b 200 5 5;move a 2 7 7;");
        vale.says(0, 9, 9);
        due("P7 ahead of it", vale.person(1, 0), 88);
        vale.on(1);
        due("P7 at HOUR 1", vale.person(1, 0), 0);
        due("P8 who hears is who has come", vale.saying(0, 5), 2);
        vale.goes(0, 3);
        vale.on(1);
        due("P7 a move behind goes()", vale.person(0, 0), 77);
        passed(vale, 197);
        due("P7 at HOUR 199", vale.person(1, 0), 0);
        due("P25 it meets at 200", vale.meets(1, 1, 1), 1);
        vale.on(1);
        due("P7 at HOUR 200", vale.person(1, 0), 55);
        vale.goes(1, 1);
        passed(vale, 200);
        due("P7 nobody moves behind its moves", vale.person(1, 0), 1);
    }

    // WORTH by how many they are, cut; what is over goes one by one to the first ones.
    private static void shares() {
        for (int owners = 1; owners <= 6; owners++) {
            StringBuilder text = new StringBuilder("land 9 9;cliff p 0 0 1 9;");
            for (int p = 0; p < 6; p++) {
                // The last ones are too far: the owners are the first, but for one that is left out ahead of them.
                text.append("person ").append((char) ('a' + p)).append(p > 0 && p <= owners ? " 0 1;" : " 8 8;");
            }
            boolean all = owners == 6;
            EchoVale vale = Check.vale(text.toString());
            if (all) {
                vale.goes(0, 0);
            }
            int first = all ? 0 : 1;
            for (int worth = 1; worth <= 99; worth += worth < 13 || worth > 90 ? 1 : 13) {
                due("P13 says", vale.says(0, worth, 1) == NONE ? 1 : 0, 0);
                vale.undo();
                vale.goes(0, 0);
                int s = vale.says(0, worth, 9);
                vale.goes(0, all ? 0 : 88);
                vale.on(1);
                int sum = 0;
                for (int p = 0; p < 6; p++) {
                    boolean owns = p >= first && p < first + owners;
                    int place = p - first;
                    int want = owns ? worth / owners + (place < worth % owners ? 1 : 0) : 0;
                    due("P10 SHARE of " + worth + " by " + owners + ", PERSON " + p, vale.share(p, s), want);
                    sum += vale.share(p, s);
                }
                due("P10 all SHARES of " + worth, sum, worth);
                vale = Check.vale(text.toString());
            }
        }
    }

    private static EchoVale chain() {
        EchoVale vale = Check.vale(CHAIN);
        due("said", vale.says(0, 9, 9), 0);
        return vale;
    }

    // What SOUNDS at the last HOUR that goes by counts, what SOUNDS an HOUR later does not.
    private static void lastHourAhead() {
        EchoVale sounded = passed(chain(), 100);
        int[][] wanted = {{0, 40}, {1, 60}, {2, 100}};
        for (int k = 0; k < 3; k++) {
            due("chain", sounded.sounded(k, 1), wanted[k][0]);
            due("chain", sounded.sounded(k, 2), wanted[k][1]);
        }
        due("P22 next by 39", chain().next(39), NONE);
        due("P22 next by 40", chain().next(40), 40);
        due("P23 heirs by 59", chain().heirs(0, 59), 1);
        due("P23 heirs by 60", chain().heirs(0, 60), 2);
        due("P24 when b by 59", chain().when(1, 0, 59), NONE);
        due("P24 when b by 60", chain().when(1, 0, 60), 60);
        due("P24 when c by 99", chain().when(2, 0, 99), NONE);
        due("P24 when c by 100", chain().when(2, 0, 100), 100);
        due("P17 b stays, 59", chain().camping(1, 19, 59), 0);
        due("P17 b stays, 60", chain().camping(1, 19, 60), 9);
        due("P17 a, 59", chain().camping(0, 10, 59), 9);
        due("P17 a, 60", chain().camping(0, 10, 60), 0);
        due("P16 b by 59", chain().camp(1, 39), 0);
        // By 60 HOURS b hears alone within 4 of q, a by p alone till then: the first such CELL is (5, 0).
        due("P16 b by 60", chain().camp(1, 60), 5);
        due("P17 b there by 60", chain().camping(1, 5, 60), 9);
        due("P17 b before it by 60", chain().camping(1, 4, 60), 4);
        due("P18 b camps at (0, 2), by 39", chain().has(1, 2, 39), 0);
        due("P18 b camps at (0, 2), by 40", chain().has(1, 2, 40), 4);
        due("P18 b camps, by 59", chain().has(1, 2, 59), 4);
        due("P18 b stays, by 59", chain().has(1, 0, 59), 0);
        due("P18 b stays, by 60", chain().has(1, 0, 60), 9);
        due("P18 c camps, by 60", chain().has(2, 4, 60), 4);
        due("P20 b told by 59", Check.vale(CHAIN).tells(0, 1, 9, 59, NONE), 0);
        due("P20 b told by 60", Check.vale(CHAIN).tells(0, 1, 9, 60, 0) >= 0 ? 1 : 0, 1);
        due("P25 meets by 60", meeting().meets(0, 1, 60), 2);
        due("P25 meets by 59", meeting().meets(0, 1, 59), 1);
        due("P25 meets by 1", meeting().meets(0, 1, 1), 1);
        // Nobody is near p: a SECRET, but for r, who hears q 60 HOURS later.
        String quiet = CHAIN.replace("person a 0 1", "person a 0 3").replace("person b 9 1", "person b 9 3");
        due("P21 secret by 39", Check.vale(quiet).secret(0, 39), 9);
        due("P21 secret by 40", Check.vale(quiet).secret(0, 40), 3);
    }

    // They meet in the first HOUR that goes by and in the 60th alone.
    private static EchoVale meeting() {
        return Check.vale("land 3 3;person a 0 0;person b 0 0;move a 2 1 1;move a 60 0 0;move a 61 1 1;");
    }

    // 400 is the last HOUR: what SOUNDS in it SOUNDS, what would behind it does not.
    private static void lastHourOfAll() {
        for (int left = 38; left <= 42; left++) {
            EchoVale vale = passed(Check.vale(CHAIN), 400 - left);
            vale.says(0, 9, 9);
            boolean heard = left >= 40;
            due("P9 when it comes, at " + left + " ahead", vale.comes(0, 0, 0), 440 - left);
            due("P22 next, at " + left + " ahead", vale.next(100), heard ? 440 - left : NONE);
            due("P24 when, at " + left + " ahead", vale.when(0, 0, 100), heard ? 440 - left : NONE);
            due("P23 heirs, at " + left + " ahead", vale.heirs(0, 60), 1);
            due("P17 camping, at " + left + " ahead", vale.camping(1, 0, 60), heard ? 4 : 0);
            due("P18 has, at " + left + " ahead", vale.has(1, 2, 60), heard ? 4 : 0);
            due("P21 secret, at " + left + " ahead", vale.secret(0, 60), heard ? 0 : 9);
            due("P14 on, at " + left + " ahead", vale.on(100), left);
            due("P42 SOUNDED, at " + left + " ahead", vale.count(6), heard ? 1 : 0);
            due("P14 on at 400", vale.on(1), 0);
            due("P42 HOUR", vale.count(4), 400);
            due("P22 next at 400", vale.next(1), NONE);
            due("P25 meets at 400", vale.meets(0, 0, 60), 0);
            due("P32 odds at 400", vale.odds(0, 40, 1), 0);
            due("P13 says at 400", vale.says(0, 1, 9), 1);
            due("P8 said at 400", vale.saying(1, 2), 400);
        }
    }

    // At REST: none HAS more by its change alone; as much is no more.
    private static void restsAndTold() {
        EchoVale same = Check.vale("land 9 9;cliff p 0 0 1 9;person a 0 0;camp a 0 1;");
        same.says(0, 9, 9);
        due("P19 as much is at REST", same.rests(1, NONE), 2);
        due("P19 the first", same.rests(1, 0), 0);
        due("P19 the second", same.rests(1, 1), 1);
        EchoVale less = Check.vale("land 9 9;cliff p 0 0 1 9;person a 0 0;person b 0 0;camp a 8 8;");
        less.says(0, 9, 9);
        due("P19 less by its camp", less.rests(1, NONE), 1);
        due("P19 it stays", less.rests(1, 0), 0);
        EchoVale more = Check.vale("land 9 9;cliff p 0 0 1 9;person a 8 8;person b 0 0;camp a 0 1;");
        more.says(1, 2, 9);
        due("P19 1 more by its camp", more.rests(1, NONE), 1);
        due("P19 it goes", more.rests(1, 0), 1);
        due("P18 1 more", more.has(0, 1, 1) - more.has(0, 0, 1), 1);
        // TOLD: another one owns it alone; together with a third one is not told, and nobody is told what is not heard.
        EchoVale three = Check.vale("land 9 9;cliff p 0 0 1 9;person a 8 8;person b 0 0;person c 0 1;");
        due("P20 b and c", three.tells(0, 1, 2, 1, NONE), 0);
        due("P20 c and b", three.tells(0, 2, 2, 1, NONE), 0);
        three.goes(2, 3);
        // FORCE 2 or less comes of LOUD 2 from (0, 0) to 2 away; a, there, must be farther than FORCE: (2, 0), (1, 1), (0, 2).
        due("P20 b alone", three.tells(0, 1, 2, 1, NONE), 3);
        due("P20 by Y, then X", three.tells(0, 1, 2, 1, 0), 2);
        due("P20 by Y, then X", three.tells(0, 1, 2, 1, 1), 11);
        due("P20 by Y, then X", three.tells(0, 1, 2, 1, 2), 20);
    }

    // By seeds at the ends of an int, too, and x, x and 1, ..: odds() goes by drawn() itself.
    private static void drawnAndOdds() {
        for (int first : new int[] {Integer.MIN_VALUE, -1, 0, 1, 12345, Integer.MAX_VALUE, Integer.MAX_VALUE - 19, 1 << 30}) {
            int more = 0;
            for (int n = 1; n <= 40; n++) {
                EchoVale year = chain();
                int now = year.person(1, 1);
                due("P30 a year", year.drawn(40, first + n - 1), 40);
                more += year.person(1, 1) > now ? 1 : 0;
                due("P32 odds of " + n + " from " + first, chain().odds(1, n, first), more);
            }
        }
        // One year of 40 HOURS: what p gives back at 40 counts.
        int by40 = 0;
        int by39 = 0;
        for (int seed = 0; seed < 200; seed++) {
            EchoVale vale = Check.vale("land 2 2;cliff p 0 0 40 9;person a 0 0;person b 0 0;person c 1 1;");
            vale.says(0, 99, 9);
            EchoVale year = Check.vale("land 2 2;cliff p 0 0 40 9;person a 0 0;person b 0 0;person c 1 1;");
            year.says(0, 99, 9);
            year.drawn(39, seed);
            int early = year.person(2, 1) > 0 ? 1 : 0;
            by39 += early;
            by40 += vale.odds(2, 1, seed);
        }
        due("P32 all HAVE more by 40", by40, 200);
        due("P32 not all by 39", by39 < 200 ? 1 : 0, 1);
    }

    // Said from HOUR 0 to 200, LOUD 1 to 9, from each CELL, felt or not.
    private static void waysOfPieces() {
        String one = "land 3 2;cliff p 0 0 40 9;felt 0 0;felt 2 1;";
        for (int hour : new int[] {39, 40, 41, 240, 241, 255}) {
            EchoVale vale = Check.vale(one);
            int ways = Check.pieces(vale, 0, hour, 9);
            boolean can = hour >= 40 && hour <= 240;
            // FORCE 9 comes of LOUD 9 from 0 and 1 away.
            due("P27 ways of HOUR " + hour, ways, can ? 3 : 0);
            due("P28 the first of HOUR " + hour, vale.piece(0), can ? (hour - 40) * 1000 + 9 : NONE);
            due("P28 the second of HOUR " + hour, vale.piece(1), can ? (hour - 40) * 1000 + 19 : NONE);
            due("P28 the last of HOUR " + hour, vale.piece(2), can ? (hour - 40) * 1000 + 109 : NONE);
            due("P28 behind the last of HOUR " + hour, vale.piece(3), NONE);
        }
        // LOUD 1 is the least: FORCE 1 comes of it from 0 and 1 away, and of LOUD 2 from 2, of LOUD 3 from 3 (but not 3).
        EchoVale least = Check.vale(one);
        due("P27 ways of FORCE 1", Check.pieces(least, 0, 40, 1), 5);
        int[] ways = {1, 11, 22, 101, 112};
        for (int k = 0; k < ways.length; k++) {
            due("P28 way " + k + " of FORCE 1", least.piece(k), ways[k]);
        }
        // By HOUR, then CELL, then LOUD: with STRENGTH 1 all LOUD are alike.
        EchoVale alike = Check.vale("land 2 2;cliff p 0 0 1 1;cliff q 1 1 1 9;");
        due("P27 ways of STRENGTH 1", Check.pieces(alike, 0, 7, 1), 9 + 9 + 9 + 8);
        int k = 0;
        for (int at : new int[] {0, 1, 10, 11}) {
            for (int loud = at == 11 ? 2 : 1; loud <= 9; loud++) {
                due("P28 way " + k + " of STRENGTH 1", alike.piece(k), 6000 + 10 * at + loud);
                k++;
            }
        }
        due("P28 behind the last way", alike.piece(k), NONE);
        fiftyWays();
    }

    // Exactly 50 ways, 49 and 51: STRENGTH 1, and a row of CELLS each with its ways.
    private static void fiftyWays() {
        boolean fifty = false;
        for (int w = 2; w <= 10; w++) {
            for (int strength = 1; strength <= 9; strength++) {
                EchoVale vale = Check.vale("land " + w + " 2;cliff p 0 0 1 " + strength + ";");
                int ways = Check.pieces(vale, 0, 1, strength);
                for (int k = 0; k < ways + 2; k++) {
                    due("P28 of " + ways + " ways, " + k, vale.piece(k) != NONE ? 1 : 0, k < ways && k < 50 ? 1 : 0);
                }
                fifty |= ways >= 50;
            }
        }
        due("fifty ways are among them", fifty ? 1 : 0, 1);
    }

    private static void sentences() {
        EchoVale vale = Check.vale("land 9 9;cliff p 0 0 2 9;cliff q 0 4 3 9;person a 0 0;person b 0 1;person c 8 8;felt 8 8;");
        vale.on(7);
        vale.says(0, 50, 9);
        vale.says(2, 99, 9);
        vale.says(2, 1, 1);
        vale.goes(0, 77);
        vale.goes(1, 88);
        due("P39 lost: given back still, or never", Check.saidBits(vale, "lost"), 6);
        vale.on(3);
        // 0 SOUNDED twice, nobody heard it; 1 and 2 come to nobody.
        due("P39 echoes=2", Check.saidBits(vale, "echoes=2"), 1);
        due("P39 echoes<2", Check.saidBits(vale, "echoes<2"), 6);
        due("P39 echoes>1", Check.saidBits(vale, "echoes>1"), 1);
        due("P39 echoes>2", Check.saidBits(vale, "echoes>2"), 0);
        for (int less = -1; less <= 1; less++) {
            due("P39 worth<" + (50 + less), Check.saidBits(vale, "worth<" + (50 + less)), less > 0 ? 5 : 4);
            due("P39 worth=" + (50 + less), Check.saidBits(vale, "worth=" + (50 + less)), less == 0 ? 1 : 0);
            due("P39 worth>" + (50 + less), Check.saidBits(vale, "worth>" + (50 + less)), less < 0 ? 3 : 2);
            due("P39 hour<" + (7 + less), Check.saidBits(vale, "hour<" + (7 + less)), less > 0 ? 7 : 0);
            due("P39 hour=" + (7 + less), Check.saidBits(vale, "hour=" + (7 + less)), less == 0 ? 7 : 0);
            due("P39 hour>" + (7 + less), Check.saidBits(vale, "hour>" + (7 + less)), less < 0 ? 7 : 0);
            due("P39 loud<" + (7 + less), Check.saidBits(vale, "loud<" + (7 + less)), less > 0 ? 6 : 4);
            due("P39 loud=" + (7 + less), Check.saidBits(vale, "loud=" + (7 + less)), less == 0 ? 2 : 0);
            due("P39 loud>" + (7 + less), Check.saidBits(vale, "loud>" + (7 + less)), less < 0 ? 3 : 1);
        }
        due("P39 loud=0", Check.saidBits(vale, "loud=0"), 4);
        due("P39 joint: one owns it", Check.saidBits(vale, "joint"), 0);
        // Two own it, and then three.
        EchoVale joint = Check.vale("land 9 9;cliff p 0 0 1 9;person a 0 0;person b 0 1;person c 8 8;");
        joint.says(0, 5, 9);
        joint.on(1);
        due("P39 joint: two own it", Check.saidBits(joint, "joint"), 1);
        joint.goes(2, 0);
        joint.says(0, 5, 9);
        joint.on(1);
        due("P39 joint: three own it", Check.saidBits(joint, "joint"), 3);
        due("P39 of each of three", Check.saidBits(joint, "of a and of b and of c"), 2);
    }

    // Each SENTENCE is told anew, however many there were, and however many ONES they had; undo() leaves it.
    private static void manySentences() {
        EchoVale vale = Check.vale("land 9 9;cliff p 0 0 1 9;person a 0 0;person b 8 8;");
        vale.says(0, 50, 9);
        vale.says(1, 60, 9);
        String falseOnes = "joint or ".repeat(19);
        for (int i = 0; i < 6; i++) {
            due("P38 twenty ONES", Check.sentence(vale, falseOnes + "by b"), 20);
            due("P39 the second alone", vale.said(NONE), 1);
            due("P39 the second alone", vale.said(0), 1);
            due("P38 twenty ONES", Check.sentence(vale, falseOnes + "by a"), 20);
            due("P39 the first alone", vale.said(0), 0);
            due("P38 a FAULT behind nineteen ONES", Check.sentence(vale, falseOnes + "by z") < 0 ? 1 : 0, 1);
            due("P39 the first alone still", vale.said(0), 0);
        }
        vale.goes(0, 3);
        due("P38 another SENTENCE", Check.sentence(vale, "worth>50"), 1);
        vale.undo();
        due("P15 undo() leaves the SENTENCE", vale.said(0), 1);
        vale.undo();
        due("P39 none of what is left", vale.said(NONE), 0);
    }

    // CELL 99 is the last of the largest land.
    private static void lastCell() {
        // Each SAYING comes to one CLIFF alone; (9, 9) is the only CELL from where all three are heard.
        EchoVale vale = Check.vale("land 10 10;cliff p 7 9 1 9;cliff q 9 7 1 9;cliff r 9 9 1 9;person a 6 9;person b 0 0;");
        vale.says(0, 5, 2);
        vale.goes(0, 69);
        vale.says(0, 5, 2);
        vale.goes(0, 99);
        vale.says(0, 5, 1);
        vale.goes(0, 0);
        due("P16 the last CELL", vale.camp(1, 1), 99);
        due("P17 the last CELL", vale.camping(1, 99, 1), 15);
        due("P17 the last CELL but one", vale.camping(1, 98, 1), 10);
        // From 2 away LOUD 2 comes as 1: b, at p, hears it alone.
        vale.goes(1, 97);
        int found = vale.tells(0, 1, 2, 1, NONE);
        due("P20 the last CELL of some", found > 1 ? 1 : 0, 1);
        due("P20 the last CELL", Check.vale("land 10 10;cliff p 7 9 1 9;person a 0 0;person b 7 9;").tells(0, 1, 2, 1, 4), 99);
        EchoVale pieces = Check.vale("land 10 10;cliff p 9 9 1 9;");
        due("P27 the last CELL", Check.pieces(pieces, 0, 1, 9), 3);
        due("P28 the last CELL", pieces.piece(2), 999);
        due("P34 the last CELL", pieces.reach(99, 1), 1);
        due("P26 the last CELL", pieces.nearest(99, 1), 0);
    }

    // What one SAYING makes six CLIFFS SOUND with, in six HOURS: the last of them is heard, too, alone and with the first.
    private static void sixthCliff() {
        StringBuilder text = new StringBuilder("land 10 2;person a 0 0;");
        for (int c = 0; c < 6; c++) {
            text.append("cliff ").append((char) ('p' + c)).append(' ').append(c).append(" 0 ").append(40 - c).append(" 9;");
        }
        EchoVale vale = Check.vale(text.toString());
        vale.says(0, 1, 9);
        vale.on(40);
        for (int k = 0; k < 6; k++) {
            due("six HOURS", vale.sounded(k, 2), 35 + k);
        }
        int force = vale.sounded(5, 3);
        due("P27 the sixth", Check.pieces(vale, 0, 40, force, 5, 35, vale.sounded(0, 3)) > 0 ? 1 : 0, 1);
        boolean met = false;
        for (int k = 0; k < 50; k++) {
            met |= vale.piece(k) == 9;
        }
        due("P28 as it was said", met ? 1 : 0, 1);
        // The same of a chain: what SOUNDS at 40, at 60 and at 100, and 155 HOURS later.
        for (int later = 0; later <= 155; later += 155) {
            EchoVale chain = Check.vale(CHAIN);
            int ways = Check.pieces(chain, 2, 100 + later, 1, 0, 40 + later, 9, 1, 60 + later, 4);
            due("P27 a chain", ways > 0 ? 1 : 0, 1);
            boolean said = false;
            for (int k = 0; k < ways; k++) {
                said |= chain.piece(k) == later * 1000 + 109;
                due("P28 a chain, its HOUR", chain.piece(k) / 1000, later);
            }
            due("P28 a chain as it was said", said ? 1 : 0, 1);
        }
    }

    // HOURS of one, two and three digits.
    private static void digits() {
        for (int hour : new int[] {1, 9, 10, 11, 99, 100, 101, 109, 110, 199, 200, 399, 400}) {
            EchoVale vale = passed(Check.vale("land 2 2;cliff p 0 0 1 9;person a 0 0;"), hour - 1);
            vale.says(0, 1, 9);
            vale.on(1);
            due("P36 bytes at HOUR " + hour, vale.write(0), 5 + String.valueOf(hour).length());
            Check.due("P37 text at HOUR " + hour, Check.written(vale), "p " + hour + " 9;");
        }
    }

    // Of like ones the first.
    private static void likeOnes() {
        StringBuilder text = new StringBuilder("land 9 9;");
        for (int c = 0; c < 6; c++) {
            text.append("cliff p").append((char) ('a' + c)).append(' ').append(c).append(' ').append(5 - c).append(" 1 9;");
        }
        for (int p = 0; p < 6; p++) {
            text.append("person ").append((char) ('a' + p)).append(" 8 8;");
        }
        EchoVale vale = Check.vale(text.toString());
        due("P26 of six like ones", vale.nearest(0, 9), 0);
        due("P33 least of six like ones", vale.poorest(0), 0);
        due("P33 most of six like ones", vale.poorest(1), 0);
        for (int p = 0; p < 5; p++) {
            vale.says(p, 2, 1);
            due("P33 least, " + p + " said", vale.poorest(0), p + 1);
            due("P33 most, " + p + " said", vale.poorest(1), 0);
        }
        vale.says(5, 1, 1);
        due("P33 least, by 1", vale.poorest(0), 5);
        vale.says(4, 1, 1);
        due("P33 most, by 1", vale.poorest(1), 4);
    }

    // An object is used for at most 512 calls: the last one answers as the first, of the dearest, too.
    private static void manyCalls() {
        for (int kind = 0; kind < 6; kind++) {
            EchoVale vale = States.busy();
            int calls = 70;
            int first = dear(vale, kind);
            for (; calls < 508; calls += kind == 3 ? 4 : 1) {
                int answer = dear(vale, kind);
                if (answer != first) {
                    due("dear call " + calls + " of kind " + kind, answer, first);
                }
            }
            due("the last of 512 calls, kind " + kind, dear(vale, kind), first);
        }
    }

    private static int dear(EchoVale vale, int kind) {
        switch (kind) {
            case 0:
                return vale.camp(3, 60);
            case 1:
                return vale.rests(60, NONE);
            case 2:
                return vale.tells(0, 2, 5, 60, NONE);
            case 3:
                vale.end(0);
                vale.feed(0x00020500, 0, 0, 0, 0);
                vale.end(3);
                return vale.pieces();
            case 4:
                return vale.odds(1, 40, 9);
            default:
                return vale.secret(2, 60);
        }
    }
}
