import java.util.NoSuchElementException;

/** The promises one by one, with answers worked out by hand. */
public final class PromiseTest {
    private static final int NONE = EchoVale.NONE;

    // What the check that is made now tests.
    private static String promise = "";

    // Two CLIFFS at the ends of a row, a PERSON below each.
    private static final String PAIR = "land 5 5;cliff p 0 0 3 9;cliff q 4 0 2 9;person a 0 1;person b 4 1;";
    // One CLIFF in a corner and three PERSONS along its row.
    private static final String ROW = "land 10 2;cliff k 0 0 1 9;person a 0 0;person b 3 0;person c 9 0;";

    public static void main(String[] args) {
        test("P1", PromiseTest::promise01);
        test("P2, P3", PromiseTest::promise02and03);
        test("P4, P5", PromiseTest::promise04and05);
        test("P6", PromiseTest::promise06);
        test("P7", PromiseTest::promise07);
        test("P8", PromiseTest::promise08);
        test("P9", PromiseTest::promise09);
        test("P9", PromiseTest::promise09OnceOnly);
        test("P10", PromiseTest::promise10);
        test("P11", PromiseTest::promise11);
        test("P12", PromiseTest::promise12);
        test("P13", PromiseTest::promise13);
        test("P14", PromiseTest::promise14);
        test("P15", PromiseTest::promise15);
        test("P16, P17", PromiseTest::promise16and17);
        test("P18, P19", PromiseTest::promise18and19);
        test("P20", PromiseTest::promise20);
        test("P21", PromiseTest::promise21);
        test("P22, P23, P24", PromiseTest::promise22to24);
        test("P25", PromiseTest::promise25);
        test("P25", PromiseTest::promise25OfOnePerson);
        test("P26", PromiseTest::promise26);
        test("P26", PromiseTest::promise26Louder);
        test("P27, P28", PromiseTest::promise27and28);
        test("P27, P28", PromiseTest::promise28Fifty);
        test("P29", PromiseTest::promise29);
        test("P30, P31", PromiseTest::promise30and31);
        test("P32", PromiseTest::promise32);
        test("P33", PromiseTest::promise33);
        test("P34", PromiseTest::promise34);
        test("P35", PromiseTest::promise35);
        test("P36, P37", PromiseTest::promise36and37);
        test("P38, P39", PromiseTest::promise38and39);
        test("P39", PromiseTest::promise39Lost);
        test("P40, P41", PromiseTest::promise40and41);
        test("P42", PromiseTest::promise42);
        test("P11", PromiseTest::snowAndForce);
        Check.finish("PromiseTest");
    }

    // What one promise throws leaves the others their tests.
    private static void test(String what, Runnable part) {
        promise = what;
        try {
            part.run();
        } catch (RuntimeException e) {
            due("throws " + e, true, false);
        }
    }

    private static void due(String what, long got, long want) {
        Check.due(promise + " " + what, got, want);
    }

    private static void due(String what, boolean got, boolean want) {
        Check.due(promise + " " + what, got, want);
    }

    private static void noCliff(EchoVale vale, int c, int what) {
        boolean thrown = false;
        try {
            vale.cliff(c, what);
        } catch (NoSuchElementException e) {
            thrown = true;
        }
        due("cliff " + c + " " + what + " throws", thrown, true);
    }

    private static void noPerson(EchoVale vale, int p, int what) {
        boolean thrown = false;
        try {
            vale.person(p, what);
        } catch (NoSuchElementException e) {
            thrown = true;
        }
        due("person " + p + " " + what + " throws", thrown, true);
    }

    private static void noSaying(EchoVale vale, int s, int what) {
        boolean thrown = false;
        try {
            vale.saying(s, what);
        } catch (NoSuchElementException e) {
            thrown = true;
        }
        due("saying " + s + " " + what + " throws", thrown, true);
    }

    private static void promise01() {
        EchoVale vale = new EchoVale();
        due("NONE", EchoVale.NONE, -1);
        due("width", vale.count(0), 0);
        due("tape", vale.count(8), 0);
        noCliff(vale, 0, 0);
        noPerson(vale, 0, 0);
        noSaying(vale, 0, 0);
        due("no cell", vale.reach(0, 1), NONE);
    }

    private static void promise02and03() {
        EchoVale vale = new EchoVale();
        due("feed", vale.feed(0x736e6f77, 0x20352034, 0x3b20ff00, 0, 0), 20);
        due("end 21", vale.end(21), false);
        due("end", vale.end(10), true);
        due("bytes", vale.count(8), 10);
        due("snow 5 4;", vale.valley(), 1);
        due("end 0 of nothing", vale.end(0), true);
        due("end 1 of nothing", vale.end(1), false);
        due("end -1", vale.end(-1), false);
        due("end least", vale.end(Integer.MIN_VALUE), false);
    }

    private static void promise04and05() {
        EchoVale vale = new EchoVale();
        due("valley", Check.valley(vale, PAIR), 5);
        due("fault", vale.fault(), 0);
        due("x off the land", Check.valley(vale, "land 2 2;felt 2 0;"), -15);
        due("fault", vale.fault(), 2);
        due("stays", vale.count(3), 2);
    }

    private static void promise06() {
        EchoVale vale = Check.vale("land 9 9;cliff p 3 4 7 5;cliff q 0 0 1 2;snow 2 3;snow 4 1;");
        due("cell", vale.cliff(0, 0), 43);
        due("delay", vale.cliff(0, 1), 7);
        due("strength", vale.cliff(0, 2), 5);
        due("now", vale.cliff(0, 3), 5);
        vale.on(2);
        due("in snow", vale.cliff(0, 3), 2);
        due("in snow, 0 at least", vale.cliff(1, 3), 0);
        due("strength in snow", vale.cliff(1, 2), 2);
        vale.on(2);
        due("in less snow", vale.cliff(0, 3), 4);
        noCliff(vale, 2, 0);
        noCliff(vale, -1, 0);
        noCliff(vale, 0, 4);
        noCliff(vale, 0, -1);
    }

    private static void promise07() {
        EchoVale vale = Check.vale(PAIR + "camp b 2 3;move a 1 2 2;");
        due("cell", vale.person(0, 0), 10);
        due("camp", vale.person(1, 5), 32);
        due("no camp", vale.person(0, 5), NONE);
        vale.says(0, 9, 4);
        vale.says(0, 5, 1);
        due("has", vale.person(0, 1), 14);
        due("owns", vale.person(0, 2), 2);
        due("said", vale.person(0, 3), 2);
        due("heard by nobody yet", vale.person(0, 4), 0);
        vale.on(1);
        due("moved", vale.person(0, 0), 22);
        // a at (2, 2) is 4 from p: it hears FORCE 4 but not FORCE 1; q SOUNDS at 5 with 1, which b hears.
        vale.on(4);
        due("a has", vale.person(0, 1), 5);
        due("a owns", vale.person(0, 2), 1);
        due("a said", vale.person(0, 3), 2);
        due("a heard", vale.person(0, 4), 1);
        due("b has", vale.person(1, 1), 9);
        due("b said", vale.person(1, 3), 0);
        due("b heard", vale.person(1, 4), 1);
        noPerson(vale, 2, 0);
        noPerson(vale, -1, 0);
        noPerson(vale, 0, 6);
        noPerson(vale, 0, -1);
    }

    private static void promise08() {
        EchoVale vale = Check.vale(PAIR + "felt 0 1;");
        vale.on(2);
        due("number", vale.says(0, 9, 6), 0);
        int[] wanted = {9, 0, 2, 10, 4, 1, 0, 0};
        for (int what = 0; what < 8; what++) {
            due("saying " + what, vale.saying(0, what), wanted[what]);
        }
        vale.on(5);
        due("owners", vale.saying(0, 5), 2);
        due("times", vale.saying(0, 6), 2);
        due("heard", vale.saying(0, 7), 3);
        vale.says(0, 9, 1);
        due("0 at least", vale.saying(1, 4), 0);
        due("below 1 comes to none", vale.comes(1, 0, 0), NONE);
        noSaying(vale, 2, 0);
        noSaying(vale, -1, 0);
        noSaying(vale, 0, 8);
        noSaying(vale, 0, -1);
    }

    private static void promise09() {
        EchoVale vale = Check.vale(PAIR);
        vale.says(0, 9, 4);
        due("when", vale.comes(0, 0, 0), 3);
        due("what", vale.comes(0, 0, 1), 4);
        due("not yet", vale.comes(0, 1, 0), NONE);
        due("nothing yet", vale.comes(0, 1, 1), NONE);
        vale.on(3);
        due("was", vale.comes(0, 0, 0), 3);
        due("onward when", vale.comes(0, 1, 0), 5);
        due("onward what", vale.comes(0, 1, 1), 1);
        due("no such what", vale.comes(0, 0, 2), NONE);
        due("no such what", vale.comes(0, 0, -1), NONE);
        due("no such saying", vale.comes(1, 0, 0), NONE);
        due("no such saying", vale.comes(-1, 0, 0), NONE);
        due("no such cliff", vale.comes(0, 2, 0), NONE);
        due("no such cliff", vale.comes(0, -1, 0), NONE);
        vale.goes(0, 44);
        // From (4, 4): 8 to p, 4 to q. LOUD 7 does not come to p, LOUD 8 comes as 8 less 4.
        vale.says(0, 1, 7);
        due("too far", vale.comes(1, 0, 1), NONE);
        due("near enough", vale.comes(1, 1, 1), 5);
        vale.says(0, 1, 8);
        due("just near enough", vale.comes(2, 0, 1), 4);
        vale.goes(0, 21);
        // From (1, 2): 3 to p: half of it, cut, is 1.
        vale.says(0, 1, 3);
        due("cut", vale.comes(3, 0, 1), 2);
    }

    // CLIFF p SOUNDS at 1 and q at 1: both send on to r, of like ones the greater comes; p and q get nothing more.
    private static void promise09OnceOnly() {
        String[] cliffs = {"cliff q 0 2 2 9;cliff p 3 0 2 9;", "cliff p 3 0 2 9;cliff q 0 2 2 9;"};
        for (String both : cliffs) {
            EchoVale vale = Check.vale("land 9 9;" + both + "cliff r 3 3 1 9;person a 0 0;");
            // p and q SOUND with 4; r is 3 from p, which sends 2, and 4 from q, which sends 1.
            vale.says(0, 9, 5);
            due("r is too far", vale.comes(0, 2, 0), NONE);
            vale.on(2);
            due("when", vale.comes(0, 2, 0), 3);
            due("the greater", vale.comes(0, 2, 1), 2);
            vale.on(50);
            due("once each", vale.count(6), 3);
        }
        // q does not SOUND in the snow of 2, but gave it back: what p sends on at 3 is not given back any more.
        EchoVale snow = Check.vale(PAIR + "snow 2 9;snow 3 0;");
        snow.says(0, 9, 6);
        due("q at 2", snow.comes(0, 1, 0), 2);
        snow.on(20);
        due("q at 2 still", snow.comes(0, 1, 0), 2);
        due("p alone", snow.count(6), 1);
        // What comes first is kept: q has it by itself at 10, by p at 11.
        EchoVale late = Check.vale("land 5 5;cliff p 0 0 1 9;cliff q 4 0 10 9;person a 0 0;");
        late.says(0, 9, 9);
        late.on(1);
        due("first", late.comes(0, 1, 0), 10);
        due("first", late.comes(0, 1, 1), 7);
    }

    private static void promise10() {
        EchoVale vale = Check.vale(ROW);
        vale.says(2, 10, 9);
        due("own", vale.share(2, 0), 10);
        due("others", vale.share(0, 0), 0);
        // k SOUNDS with 9 less 4, which a and b hear.
        vale.on(1);
        due("first", vale.share(0, 0), 5);
        due("second", vale.share(1, 0), 5);
        due("no more", vale.share(2, 0), 0);
        vale.says(0, 11, 9);
        vale.says(0, 2, 9);
        vale.on(1);
        // FORCE 9: all three hear.
        due("owners", vale.saying(1, 5), 7);
        due("11 by three, 1st", vale.share(0, 1), 4);
        due("11 by three, 2nd", vale.share(1, 1), 4);
        due("11 by three, 3rd", vale.share(2, 1), 3);
        due("2 by three, 1st", vale.share(0, 2), 1);
        due("2 by three, 2nd", vale.share(1, 2), 1);
        due("2 by three, 3rd", vale.share(2, 2), 0);
        due("no such person", vale.share(3, 0), NONE);
        due("no such person", vale.share(-1, 0), NONE);
        due("no such saying", vale.share(0, 3), NONE);
        due("no such saying", vale.share(0, -1), NONE);
    }

    private static void promise11() {
        EchoVale vale = Check.vale("land 5 2;cliff p 0 0 2 3;cliff q 4 0 2 9;person a 0 1;person b 4 1;");
        // A second SAYING SOUNDS in the same HOUR: first by SAYING, then by CLIFF.
        vale.says(1, 9, 9);
        vale.says(0, 9, 1);
        vale.on(2);
        // b at (4, 1): 5 to p: 9 less 2, at most 3; 1 to q: 9.
        int[][] wanted = {{0, 0, 2, 3, 1}, {0, 1, 2, 9, 3}, {1, 0, 2, 1, 1}};
        for (int k = 0; k < 3; k++) {
            for (int what = 0; what < 5; what++) {
                due("sounded " + k + " " + what, vale.sounded(k, what), wanted[k][what]);
            }
        }
        due("the last in the HOUR own it", vale.saying(0, 5), 3);
        due("behind", vale.sounded(3, 0), NONE);
        due("ahead", vale.sounded(-1, 0), NONE);
        due("no such what", vale.sounded(0, 5), NONE);
        due("no such what", vale.sounded(0, -1), NONE);
        vale.on(50);
        due("once each", vale.count(6), 3);
    }

    private static void promise12() {
        EchoVale vale = Check.vale("land 3 4;person a 0 1;");
        due("goes", vale.goes(0, 32), true);
        due("there", vale.person(0, 0), 32);
        due("off the land", vale.goes(0, 3), false);
        due("off the land", vale.goes(0, 40), false);
        due("off the land", vale.goes(0, -1), false);
        due("off the land", vale.goes(0, 100), false);
        due("no such person", vale.goes(1, 0), false);
        due("no such person", vale.goes(-1, 0), false);
        due("still there", vale.person(0, 0), 32);
    }

    private static void promise13() {
        EchoVale vale = Check.vale(PAIR);
        due("worth 0", vale.says(0, 0, 1), NONE);
        due("worth 100", vale.says(0, 100, 1), NONE);
        due("loud 0", vale.says(0, 1, 0), NONE);
        due("loud 10", vale.says(0, 1, 10), NONE);
        due("no such person", vale.says(2, 1, 1), NONE);
        due("no such person", vale.says(-1, 1, 1), NONE);
        due("none yet", vale.count(5), 0);
        for (int s = 0; s < 30; s++) {
            due("says", vale.says(s % 2, s == 0 ? 99 : 1, 1 + s % 9), s);
        }
        due("a 31st", vale.says(0, 1, 1), NONE);
        due("thirty", vale.count(5), 30);
        due("worth", vale.saying(0, 0), 99);
        due("tells of 31", vale.tells(0, 1, 1, 1, NONE), NONE);
        due("secret of 31", vale.secret(0, 1), NONE);
        vale.on(100);
        due("all that can sound", vale.count(6) > 30, true);
    }

    private static void promise14() {
        EchoVale vale = Check.vale(PAIR);
        due("0", vale.on(0), NONE);
        due("101", vale.on(101), NONE);
        due("-1", vale.on(-1), NONE);
        due("1", vale.on(1), 1);
        due("100", vale.on(100), 100);
        vale.on(100);
        vale.on(100);
        due("hour", vale.count(4), 301);
        due("99 are left", vale.on(100), 99);
        due("hour", vale.count(4), 400);
        int more = vale.undo();
        due("undone", more, 4);
        vale.on(98);
        due("one is left", vale.on(2), 1);
        due("none is left", vale.on(5), 0);
        due("none is left", vale.drawn(5, 1), 0);
        due("above 0 alone is undone", vale.undo(), 5);
        due("hour", vale.count(4), 399);
        vale.on(1);
        due("says at the end", vale.says(0, 1, 4), 0);
        due("next at the end", vale.next(100), NONE);
        due("meets at the end", vale.meets(0, 1, 60), 0);
        due("secret at the end", vale.secret(0, 60), 9);
        due("camping at the end", vale.camping(0, 0, 60), 1);
        EchoVale quick = Check.vale("land 5 5;cliff p 0 0 1 9;person a 0 1;person b 0 2;");
        for (int i = 0; i < 4; i++) {
            quick.on(100);
        }
        quick.says(0, 5, 9);
        due("comes behind the last hour", quick.comes(0, 0, 0), 401);
        due("next is behind the last hour", quick.next(100), NONE);
        due("when is behind the last hour", quick.when(1, 0, 100), NONE);
        due("heirs stay", quick.heirs(0, 60), 1);
        due("nobody is told", quick.tells(0, 1, 3, 60, NONE), 0);
    }

    private static void promise15() {
        EchoVale vale = Check.vale(PAIR);
        vale.goes(0, 22);
        vale.says(0, 9, 9);
        vale.on(7);
        vale.drawn(9, 3);
        vale.goes(7, 0);
        vale.says(0, 0, 0);
        due("drawn is undone", vale.undo(), 3);
        due("hour", vale.count(4), 7);
        due("on is undone", vale.undo(), 2);
        due("hour", vale.count(4), 0);
        due("sounded", vale.count(6), 0);
        due("comes", vale.comes(0, 0, 1), 7);
        due("says is undone", vale.undo(), 1);
        due("sayings", vale.count(5), 0);
        due("goes is undone", vale.undo(), 0);
        due("cell", vale.person(0, 0), 10);
        due("none is", vale.undo(), NONE);
        for (int i = 0; i < 11; i++) {
            vale.goes(0, i % 5);
        }
        for (int i = 7; i >= 0; i--) {
            due("eight are kept", vale.undo(), i);
        }
        due("none is", vale.undo(), NONE);
        due("cell", vale.person(0, 0), 2);
        vale.goes(0, 3);
        due("once more", vale.undo(), 0);
    }

    private static void promise16and17() {
        EchoVale vale = Check.vale(ROW);
        vale.says(2, 10, 9);
        // k SOUNDS with 5: who is within 5 of (0, 0) owns it together with a and b.
        due("far", vale.camping(2, 6, 1), 0);
        due("near", vale.camping(2, 5, 1), 3);
        due("near", vale.camping(2, 14, 1), 3);
        due("the first of like ones", vale.camp(2, 1), 0);
        due("a goes away", vale.camping(0, 9, 1), 0);
        due("a", vale.camp(0, 1), 0);
        due("as it is now", vale.camping(0, 0, 1), 5);
        due("nothing is changed", vale.count(4), 0);
        due("nothing is changed", vale.person(2, 0), 9);
        for (int n = 0; n <= 61; n += 61) {
            due("camp by " + n, vale.camp(0, n), NONE);
            due("camping by " + n, vale.camping(0, 0, n), NONE);
        }
        due("no such person", vale.camp(3, 1), NONE);
        due("no such person", vale.camp(-1, 1), NONE);
        due("no such person", vale.camping(3, 0, 1), NONE);
        due("no such cell", vale.camping(0, 20, 1), NONE);
        due("no such cell", vale.camping(0, -1, 1), NONE);
        vale.undo();
        due("nothing to own", vale.camp(2, 60), 0);
        // The later HOUR counts: at 2 c is back at (9, 0), by its move.
        EchoVale moved = Check.vale("land 10 2;cliff k 9 1 2 9;person a 0 0;person c 0 0;move c 2 9 0;");
        moved.goes(0, 18);
        moved.says(0, 8, 1);
        due("by its move", moved.camping(1, 0, 2), 4);
        moved.goes(0, 19);
        due("before it", moved.camping(1, 0, 1), 0);
        EchoVale far = Check.vale("land 10 4;cliff k 5 3 1 1;person a 5 3;person b 0 0;");
        far.says(0, 7, 1);
        due("first by y, then x", far.camp(1, 1), 25);
    }

    // Two CLIFFS; a and b may each camp beside the other one.
    private static void promise18and19() {
        EchoVale vale = Check.vale(ROW + "camp c 3 1;camp b 8 0;");
        vale.says(2, 10, 9);
        due("none camps", vale.has(2, 0, 1), 0);
        due("c camps", vale.has(2, 4, 1), 3);
        due("c camps, a", vale.has(0, 4, 1), 4);
        due("b camps", vale.has(1, 2, 1), 0);
        due("both camp", vale.has(2, 6, 1), 5);
        due("a has no camp", vale.has(0, 1, 1), NONE);
        due("no such bits", vale.has(0, 8, 1), NONE);
        due("no such bits", vale.has(0, -1, 1), NONE);
        due("no such person", vale.has(3, 0, 1), NONE);
        due("n 0", vale.has(0, 0, 0), NONE);
        due("n 61", vale.has(0, 0, 61), NONE);
        // c has more with its camp, b less: only 4 rests.
        due("rests", vale.rests(1, NONE), 1);
        due("the rest", vale.rests(1, 0), 4);
        due("behind", vale.rests(1, 1), NONE);
        due("k -2", vale.rests(1, -2), NONE);
        due("n 0", vale.rests(0, NONE), NONE);
        due("n 61", vale.rests(61, NONE), NONE);
        vale.undo();
        due("nothing said: all rest", vale.rests(60, NONE), 4);
        due("rising", vale.rests(60, 1), 2);
        due("rising", vale.rests(60, 3), 6);
        due("nothing is changed", vale.count(4), 0);
        due("no camps at all", Check.vale(PAIR).rests(1, NONE), 1);
    }

    private static void promise20() {
        EchoVale vale = Check.vale("land 5 5;cliff p 0 0 3 9;person a 4 4;person b 1 0;");
        // FORCE 1 at p is heard by b alone, unless a is within 1 of it, too: LOUD 1 from (0, 0), (1, 0), (0, 1).
        due("a within 1", vale.tells(0, 1, 1, 3, NONE), 0);
        // LOUD 2 comes as 1 from a DISTANCE of 2: (2, 0), (1, 1), (0, 2); nearer a hears 2.
        due("tells", vale.tells(0, 1, 2, 3, NONE), 3);
        due("by y, then x", vale.tells(0, 1, 2, 3, 0), 2);
        due("by y, then x", vale.tells(0, 1, 2, 3, 1), 11);
        due("by y, then x", vale.tells(0, 1, 2, 3, 2), 20);
        due("behind", vale.tells(0, 1, 2, 3, 3), NONE);
        due("k -2", vale.tells(0, 1, 2, 3, -2), NONE);
        due("not yet", vale.tells(0, 1, 2, 2, NONE), 0);
        due("itself", vale.tells(0, 0, 2, 3, NONE), NONE);
        due("no such person", vale.tells(2, 0, 2, 3, NONE), NONE);
        due("no such person", vale.tells(0, 2, 2, 3, NONE), NONE);
        due("no such person", vale.tells(-1, 0, 2, 3, NONE), NONE);
        due("no such person", vale.tells(0, -1, 2, 3, NONE), NONE);
        due("loud 0", vale.tells(0, 1, 0, 3, NONE), NONE);
        due("loud 10", vale.tells(0, 1, 10, 3, NONE), NONE);
        due("n 0", vale.tells(0, 1, 2, 0, NONE), NONE);
        due("n 61", vale.tells(0, 1, 2, 61, NONE), NONE);
        due("nothing is said", vale.count(5), 0);
        due("nobody went", vale.person(0, 0), 44);
        // On felt (2, 0) LOUD 4 is 2.
        EchoVale felt = Check.vale("land 5 5;cliff p 0 0 3 9;person a 4 4;person b 1 0;felt 2 0;");
        due("on felt", felt.tells(0, 1, 4, 3, NONE), 6);
        due("on felt", felt.tells(0, 1, 4, 3, 0), 2);
        due("LOUD 4 from 4 comes as 2", felt.tells(0, 1, 4, 3, 1), 4);
    }

    private static void promise21() {
        EchoVale vale = Check.vale("land 9 9;cliff p 0 0 3 9;person a 0 4;person b 8 8;");
        // a is 4 from p: LOUD 4 comes as 2, which a does not hear; LOUD 5 as 3, 6 as 4.
        due("secret", vale.secret(0, 3), 5);
        due("not back yet", vale.secret(0, 2), 9);
        due("b is 16 from p", vale.secret(1, 60), 9);
        vale.goes(0, 0);
        due("not even 1", vale.secret(0, 3), 0);
        due("no such person", vale.secret(2, 3), NONE);
        due("no such person", vale.secret(-1, 3), NONE);
        due("n 0", vale.secret(0, 0), NONE);
        due("n 61", vale.secret(0, 61), NONE);
        due("nothing is said", vale.count(5), 0);
    }

    private static void promise22to24() {
        EchoVale vale = Check.vale(PAIR);
        due("nothing", vale.next(100), NONE);
        vale.on(10);
        vale.says(0, 9, 4);
        vale.says(1, 9, 1);
        due("next", vale.next(100), 12);
        due("next by 2", vale.next(2), 12);
        due("next by 1", vale.next(1), NONE);
        due("n 0", vale.next(0), NONE);
        due("n 101", vale.next(101), NONE);
        due("heirs by 2", vale.heirs(0, 2), 1);
        due("heirs by 5", vale.heirs(0, 5), 2);
        due("heirs by 60", vale.heirs(0, 60), 2);
        due("heirs of none", vale.heirs(2, 1), NONE);
        due("heirs of none", vale.heirs(-1, 1), NONE);
        due("heirs by 0", vale.heirs(0, 0), NONE);
        due("heirs by 61", vale.heirs(0, 61), NONE);
        due("when a", vale.when(0, 0, 100), 13);
        due("when b", vale.when(1, 0, 100), 15);
        due("when b by 4", vale.when(1, 0, 4), NONE);
        due("a does not hear the other", vale.when(0, 1, 100), NONE);
        due("no such person", vale.when(2, 0, 1), NONE);
        due("no such person", vale.when(-1, 0, 1), NONE);
        due("no such saying", vale.when(0, 2, 1), NONE);
        due("no such saying", vale.when(0, -1, 1), NONE);
        due("when by 0", vale.when(0, 0, 0), NONE);
        due("when by 101", vale.when(0, 0, 101), NONE);
        due("nothing is changed", vale.count(4), 10);
        vale.on(2);
        due("the next one", vale.next(100), 13);
        vale.on(1);
        due("a heard it", vale.when(0, 0, 100), NONE);
    }

    private static void promise25() {
        EchoVale vale = Check.vale("land 5 5;person a 0 0;person b 1 0;move a 3 1 0;move b 6 4 4;");
        due("meets", vale.meets(0, 1, 60), 3);
        due("meets", vale.meets(1, 0, 4), 2);
        due("meets", vale.meets(0, 1, 2), 0);
        vale.goes(0, 1);
        due("now does not count", vale.meets(0, 1, 1), 1);
        due("n 0", vale.meets(0, 1, 0), NONE);
        due("n 61", vale.meets(0, 1, 61), NONE);
        due("no such person", vale.meets(0, 2, 1), NONE);
        due("no such person", vale.meets(-1, 0, 1), NONE);
        vale.on(100);
        vale.on(100);
        vale.on(100);
        vale.on(95);
        vale.goes(0, 44);
        due("400 is the last", vale.meets(0, 1, 60), 5);
    }

    /** A PERSON told twice is on one CELL with itself in each HOUR that goes by, wherever it moves. */
    private static void promise25OfOnePerson() {
        for (int hour = 0; hour <= 400; hour += hour < 330 ? 30 : 1) {
            EchoVale vale = Check.vale("land 5 5;person a 0 0;person b 1 0;person c 4 4;move a 3 1 0;move b 6 4 4;");
            for (int left = hour; left > 0; left -= 100) {
                vale.on(Math.min(left, 100));
            }
            due("hour", vale.count(4), hour);
            for (int p = 0; p < 3; p++) {
                for (int n = 1; n <= 60; n++) {
                    due("itself at " + hour, vale.meets(p, p, n), Math.min(n, 400 - hour));
                }
                due("itself by 0", vale.meets(p, p, 0), NONE);
                due("itself by -1", vale.meets(p, p, -1), NONE);
                due("itself by 61", vale.meets(p, p, 61), NONE);
            }
            due("no such person twice", vale.meets(3, 3, 1), NONE);
            due("no such person twice", vale.meets(-1, -1, 1), NONE);
        }
        due("no persons", Check.vale("land 5 5;").meets(0, 0, 1), NONE);
    }

    private static void promise26() {
        EchoVale vale = Check.vale("land 10 10;cliff p 0 0 1 3;cliff q 4 0 1 9;cliff r 9 9 1 9;felt 1 1;");
        // From (1, 0): 1 to p: 9, at most 3; 3 to q: 8.
        due("at most its strength", vale.nearest(1, 9), 1);
        due("p alone", vale.nearest(1, 2), 0);
        // From (2, 0): 2 to both: 3 and 3, of like ones the first.
        due("the first", vale.nearest(2, 4), 0);
        due("more", vale.nearest(2, 5), 1);
        due("none", vale.nearest(90, 8), NONE);
        // From (0, 9): 9 to p and to r: 5, but 3 at p.
        due("far", vale.nearest(90, 9), 2);
        due("on felt", vale.nearest(11, 3), NONE);
        due("on felt", vale.nearest(11, 4), 0);
        due("on felt", vale.nearest(11, 2), NONE);
        due("loud 0", vale.nearest(0, 0), NONE);
        due("loud -1", vale.nearest(0, -1), NONE);
        due("no such cell", vale.nearest(-1, 9), NONE);
        due("no such cell", vale.nearest(100, 9), NONE);
    }

    // No bound is told for LOUD here, as it is for reach().
    private static void promise26Louder() {
        EchoVale vale = Check.vale("land 10 10;cliff p 0 0 1 3;cliff q 4 0 1 8;cliff r 9 9 1 9;felt 1 1;");
        // From (0, 0): 0 to p, at most 3; 4 to q: 8; 18 to r.
        due("loud 10", vale.nearest(0, 10), 1);
        due("loud 17", vale.nearest(0, 17), 1);
        due("loud 18", vale.nearest(0, 18), 2);
        due("the loudest", vale.nearest(0, Integer.MAX_VALUE), 2);
        due("the least", vale.nearest(0, Integer.MIN_VALUE), NONE);
        // From (1, 1): 16 to r.
        due("loud 17 on felt", vale.nearest(11, 17), 1);
        due("loud 18 on felt: q at most 8, r 8", vale.nearest(11, 18), 1);
        due("loud 19 on felt: q at most 8, r 9", vale.nearest(11, 19), 2);
        due("the loudest on felt", vale.nearest(11, Integer.MAX_VALUE), 2);
        due("the least on felt", vale.nearest(11, Integer.MIN_VALUE), NONE);
        due("the next on felt", vale.nearest(11, Integer.MIN_VALUE + 1), NONE);
        due("no such cell, loud 10", vale.nearest(100, 10), NONE);
    }

    private static void promise27and28() {
        EchoVale vale = Check.vale("land 3 3;cliff p 0 0 2 5;cliff q 2 0 3 9;felt 0 0;snow 8 1;");
        due("ahead of any", vale.piece(0), NONE);
        // p at 7 with 4: said at 5; through q, said at 2, p would have given it back by itself, ahead of that.
        due("p alone", Check.pieces(vale, 0, 7, 4), 9);
        int[] ways = {5004, 5014, 5025, 5104, 5115, 5125, 5205, 5215, 5226};
        for (int k = 0; k < ways.length; k++) {
            due("way " + k, vale.piece(k), ways[k]);
        }
        due("behind", vale.piece(9), NONE);
        due("below", vale.piece(-1), NONE);
        due("tape", vale.count(8), 0);
        // q at 8 with 4, too: as far from both, by halves that are cut: (1, 0), (1, 1), (1, 2).
        due("two of them", Check.pieces(vale, 0, 7, 4, 1, 8, 4), 3);
        due("between them", vale.piece(0), 5014);
        due("not both", Check.pieces(vale, 0, 7, 4, 0, 8, 4), 0);
        due("none such", vale.piece(0), NONE);
        due("more than its strength", Check.pieces(vale, 0, 7, 6), 0);
        due("in snow", Check.pieces(vale, 0, 9, 5), 0);
        int many = Check.pieces(vale, 0, 9, 4);
        due("in snow, what is more", many > 9, true);
        due("the same twice", Check.pieces(vale, 0, 9, 4, 0, 9, 4), many);
        due("hour 0", Check.pieces(vale, 0, 0, 4), 0);
        due("hour 255", Check.pieces(vale, 0, 255, 4), 0);
        int last = Check.pieces(vale, 0, 202, 4);
        due("said at 200", last > 0, true);
        due("none", Check.pieces(vale), NONE);
        due("two bytes", Check.pieces(vale, 0, 7), NONE);
        due("four bytes", Check.pieces(vale, 0, 7, 4, 0), NONE);
        due("seven", Check.pieces(vale, 0, 7, 4, 0, 7, 4, 0, 7, 4, 0, 7, 4, 0, 7, 4, 0, 7, 4, 0, 7, 4), NONE);
        due("six", Check.pieces(vale, 0, 7, 4, 0, 7, 4, 0, 7, 4, 0, 7, 4, 0, 7, 4, 0, 7, 4), 9);
        due("force 0", Check.pieces(vale, 0, 7, 0), NONE);
        due("force 10", Check.pieces(vale, 0, 7, 10), NONE);
        due("no such cliff", Check.pieces(vale, 2, 7, 4), NONE);
        due("a cliff of 255", Check.pieces(vale, 255, 7, 4), NONE);
        due("the tape is empty", vale.count(8), 0);
        due("the latest stay", vale.piece(0), 5004);
    }

    // One CLIFF of STRENGTH 1 in the middle of a large land: far more than fifty ways.
    private static void promise28Fifty() {
        EchoVale vale = Check.vale("land 10 10;cliff p 5 5 1 1;");
        int many = Check.pieces(vale, 0, 1, 1);
        due("many ways", many > 300, true);
        due("the 50th", vale.piece(49) > 0, true);
        due("behind the 50th", vale.piece(50), NONE);
        due("at 201", Check.pieces(vale, 0, 201, 1), many);
        due("at 201, said at 200", vale.piece(0) / 1000, 200);
        due("at 202", Check.pieces(vale, 0, 202, 1), 0);
    }

    private static void promise29() {
        EchoVale vale = Check.vale(PAIR);
        vale.says(0, 9, 4);
        due("now", Check.claims(vale, "owns a 0;said a 0;"), NONE);
        due("not heard yet", Check.claims(vale, "owns a 0;heard a 0;said b 0;"), 1);
        vale.on(5);
        due("later", Check.claims(vale, "owns b 0;said a 0;heard a 0;heard b 0;"), NONE);
        due("no more", Check.claims(vale, "owns a 0;"), 0);
        due("not said by b", Check.claims(vale, "said a 0;said b 0;"), 1);
        due("not said at all", Check.claims(vale, "said a 0;said a 0;said a 29;"), 2);
        due("a fault", Check.claims(vale, "said a 0;said c 0;"), -2 - 14);
        due("tape", vale.count(8), 0);
    }

    private static void promise30and31() {
        EchoVale vale = Check.vale(PAIR);
        due("ahead of any", vale.storms(0), NONE);
        due("n 0", vale.drawn(0, 5), NONE);
        due("n 101", vale.drawn(101, 5), NONE);
        due("not told by it", vale.storms(1), NONE);
        due("drawn", vale.drawn(100, 5), 100);
        due("hour", vale.count(4), 100);
        due("sayings", vale.storms(1), vale.count(5));
        due("storms of a hundred", vale.storms(0) > 5 && vale.storms(0) < 50, true);
        due("no such what", vale.storms(2), NONE);
        due("no such what", vale.storms(-1), NONE);
        vale.drawn(100, 5);
        due("thirty at most", vale.count(5), 30);
        vale.drawn(100, 5);
        due("none more", vale.storms(1), 0);
        due("100 are left", vale.drawn(100, 6), 100);
        due("none is left", vale.drawn(100, 6), 0);
        due("no storms in no hours", vale.storms(0), 0);
        due("no persons", new EchoVale().drawn(1, 1), NONE);
        EchoVale empty = Check.vale("land 5 5;");
        due("no persons", empty.drawn(1, 1), NONE);
        oneDrawnHour();
    }

    // The draws of seed 5, gone through here by themselves.
    private static void oneDrawnHour() {
        for (int seed = 0; seed < 200; seed++) {
            EchoVale vale = Check.vale("land 9 9;cliff p 0 0 1 6;person a 0 1;person b 3 0;person c 8 8;");
            vale.says(0, 7, 9);
            int[] x = {seed};
            int storm = draw(x, 4) == 0 ? draw(x, 5) : NONE;
            boolean speaks = draw(x, 3) == 0;
            due("drawn", vale.drawn(1, seed), 1);
            due("storm", vale.storms(0), storm == NONE ? 0 : 1);
            due("force in a storm", vale.sounded(0, 3), 6 - Math.max(0, storm));
            due("says", vale.storms(1), speaks ? 1 : 0);
            if (speaks) {
                due("who", vale.saying(1, 1), draw(x, 3));
                due("worth", vale.saying(1, 0), draw(x, 99) + 1);
                due("loud", vale.saying(1, 4), draw(x, 9) + 1);
                due("when", vale.saying(1, 2), 1);
            }
            due("a storm is no snow", vale.cliff(0, 3), 6);
        }
    }

    private static int draw(int[] x, int n) {
        x[0] = x[0] * 1103515245 + 12345;
        return (x[0] >>> 8) % n;
    }

    private static void promise32() {
        EchoVale vale = Check.vale(PAIR);
        int more = 0;
        for (int i = 0; i < 40; i++) {
            EchoVale other = Check.vale(PAIR);
            other.drawn(40, Integer.MAX_VALUE + i);
            more += other.person(0, 1) > 0 ? 1 : 0;
        }
        due("odds", vale.odds(0, 40, Integer.MAX_VALUE), more);
        due("nothing is drawn", vale.storms(0), NONE);
        due("nothing is changed", vale.count(4), 0);
        due("nothing is undone", vale.undo(), NONE);
        due("n 0", vale.odds(0, 0, 1), NONE);
        due("n 41", vale.odds(0, 41, 1), NONE);
        due("no such person", vale.odds(2, 1, 1), NONE);
        due("no such person", vale.odds(-1, 1, 1), NONE);
        vale.says(0, 99, 1);
        for (int i = 0; i < 29; i++) {
            vale.says(0, 99, 1);
        }
        due("no more than now", vale.odds(0, 40, 7), 0);
    }

    private static void promise33() {
        EchoVale vale = Check.vale(ROW);
        due("the first", vale.poorest(0), 0);
        due("the first", vale.poorest(1), 0);
        vale.says(0, 5, 1);
        due("least", vale.poorest(0), 1);
        due("most", vale.poorest(1), 0);
        vale.says(2, 6, 1);
        due("least", vale.poorest(0), 1);
        due("most", vale.poorest(1), 2);
        vale.says(1, 6, 1);
        due("least", vale.poorest(0), 0);
        due("most, the first", vale.poorest(1), 1);
        due("no such", vale.poorest(2), NONE);
        due("no such", vale.poorest(-1), NONE);
        due("none", new EchoVale().poorest(0), NONE);
    }

    private static void promise34() {
        EchoVale vale = Check.vale(PAIR + "felt 2 0;");
        due("p", vale.reach(10, 1), 1);
        due("p", vale.reach(10, 4), 1);
        due("both", vale.reach(10, 5), 3);
        due("on felt", vale.reach(2, 3), 0);
        due("on felt", vale.reach(2, 4), 3);
        due("on felt", vale.reach(2, 1), 0);
        due("loud 0", vale.reach(0, 0), NONE);
        due("loud 10", vale.reach(0, 10), NONE);
        due("no such cell", vale.reach(5, 1), NONE);
        due("no such cell", vale.reach(50, 1), NONE);
        due("no such cell", vale.reach(-1, 1), NONE);
        due("a cliff on felt", Check.vale("land 2 2;cliff p 0 0 1 1;felt 0 0;").reach(0, 2), 0);
    }

    private static void promise35() {
        EchoVale vale = Check.vale(ROW);
        due("a", vale.hears(0, 1), 1);
        due("a", vale.hears(0, 2), 1);
        due("a and b", vale.hears(0, 3), 3);
        due("all", vale.hears(0, 9), 7);
        vale.goes(0, 19);
        due("a is away", vale.hears(0, 9), 6);
        due("force 0", vale.hears(0, 0), NONE);
        due("force 10", vale.hears(0, 10), NONE);
        due("no such cliff", vale.hears(1, 1), NONE);
        due("no such cliff", vale.hears(-1, 1), NONE);
    }

    private static void promise36and37() {
        EchoVale vale = Check.vale("land 5 5;cliff abcdefg 0 0 3 9;cliff z 4 0 2 9;person a 0 1;person b 4 1;");
        due("no text yet", vale.byteAt(0), NONE);
        vale.says(0, 9, 4);
        vale.says(0, 9, 1);
        due("no saying", vale.write(2), NONE);
        due("no saying", vale.write(-1), NONE);
        due("not yet", vale.write(0), 0);
        vale.on(5);
        due("bytes", vale.write(0), 18);
        Check.due(promise + " text", Check.written(vale), "abcdefg 3 4;z 5 1;");
        due("no saying", vale.write(2), NONE);
        Check.due(promise + " the text made last", Check.written(vale), "abcdefg 3 4;z 5 1;");
        due("below", vale.byteAt(-1), NONE);
        due("behind", vale.byteAt(18), NONE);
        due("bytes", vale.write(1), 12);
        due("behind the shorter one", vale.byteAt(12), NONE);
        vale.on(93);
        vale.says(1, 5, 5);
        vale.on(3);
        due("bytes", vale.write(2), 22);
        Check.due(promise + " text", Check.written(vale), "z 100 5;abcdefg 101 3;");
        vale.undo();
        vale.undo();
        vale.undo();
        vale.on(2);
        vale.says(1, 5, 3);
        vale.on(2);
        vale.says(1, 5, 3);
        vale.on(2);
        due("bytes", vale.write(2), 6);
        Check.due(promise + " one digit", Check.written(vale), "z 9 3;");
        due("bytes", vale.write(3), 7);
        Check.due(promise + " two digits", Check.written(vale), "z 11 3;");
    }

    private static void promise38and39() {
        EchoVale vale = Check.vale(ROW);
        due("no sentence", vale.said(NONE), NONE);
        due("no sentence", vale.said(0), NONE);
        vale.says(2, 10, 9);
        vale.on(1);
        vale.says(0, 20, 3);
        vale.says(1, 30, 2);
        // 0 is joint, of a and b, by c; 1 is of a; 2, by b, comes to no CLIFF.
        due("joint", Check.saidBits(vale, "joint"), 1);
        due("lost", Check.saidBits(vale, "lost"), 4);
        due("of b", Check.saidBits(vale, "of b"), 5);
        due("of c", Check.saidBits(vale, "of c"), 0);
        due("by c", Check.saidBits(vale, "by c"), 1);
        due("worth", Check.saidBits(vale, "worth<20"), 1);
        due("worth", Check.saidBits(vale, "worth=20"), 2);
        due("worth", Check.saidBits(vale, "worth>20"), 4);
        due("loud", Check.saidBits(vale, "loud > 2"), 3);
        due("hour", Check.saidBits(vale, "hour = 001"), 6);
        due("echoes", Check.saidBits(vale, "echoes=0"), 6);
        due("999", Check.saidBits(vale, "worth<999"), 7);
        due("not", Check.saidBits(vale, "not joint"), 6);
        due("not not", Check.saidBits(vale, "not not joint"), 1);
        due("not ahead of and", Check.saidBits(vale, "not joint and lost"), 4);
        due("not of a bracket", Check.saidBits(vale, "not (joint or lost)"), 2);
        due("and ahead of or", Check.saidBits(vale, "joint or lost and of a"), 1);
        due("bracket ahead of and", Check.saidBits(vale, "(joint or lost) and of b"), 5);
        due("and", Check.saidBits(vale, "of a and of b"), 1);
        due("k -2", vale.said(-2), NONE);
        due("k -2 of some", vale.said(0), 0);
        due("a fault leaves it", Check.sentence(vale, "of k"), -1 - 3);
        due("a fault leaves it", vale.said(NONE), 1);
        vale.says(1, 1, 1);
        due("of later ones", Check.saidBits(vale, "worth=1"), 8);
    }

    // Snow takes all FORCE: the SAYING never SOUNDS, but it is lost only when no CLIFF gives it back any more.
    private static void promise39Lost() {
        EchoVale vale = Check.vale("land 5 5;cliff p 0 0 3 4;person a 0 0;snow 0 4;");
        vale.says(0, 5, 9);
        due("given back still", Check.saidBits(vale, "lost"), 0);
        vale.on(2);
        due("given back still", vale.said(NONE), 0);
        vale.on(1);
        due("did not sound", vale.count(6), 0);
        due("comes is told all the same", vale.comes(0, 0, 0), 3);
        due("lost", vale.said(NONE), 1);
    }

    private static void promise40and41() {
        EchoVale vale = Check.vale(PAIR);
        due("no such place", vale.image(2), false);
        due("no such place", vale.image(-1), false);
        due("nothing is kept", vale.restore(0), false);
        vale.goes(0, 0);
        vale.says(0, 9, 4);
        Check.sentence(vale, "of a");
        vale.on(1);
        due("image", vale.image(1), true);
        due("nothing is kept in the other", vale.restore(0), false);
        due("undo stays behind an image", vale.undo(), 2);
        Check.valley(vale, "land 9 9;person z 8 8;");
        due("another", vale.count(0), 9);
        due("no sentence", vale.said(NONE), NONE);
        Check.valley(vale, "x");
        Check.tape(vale, "tape");
        due("restore", vale.restore(1), true);
        due("width", vale.count(0), 5);
        due("hour", vale.count(4), 1);
        due("place", vale.person(0, 0), 0);
        due("saying", vale.comes(0, 0, 0), 3);
        due("sentence", vale.said(NONE), 1);
        due("nothing can be undone", vale.undo(), NONE);
        due("tape stays", vale.count(8), 4);
        due("fault stays", vale.fault(), 1);
        vale.on(4);
        due("goes on", vale.saying(0, 5), 1);
        due("image of another", vale.image(0), true);
        due("restore again", vale.restore(1), true);
        due("hour", vale.count(4), 1);
        due("sounded", vale.count(6), 0);
        due("restore the other", vale.restore(0), true);
        due("hour", vale.count(4), 5);
        due("sounded", vale.count(6), 2);
        due("no such place", vale.restore(2), false);
        due("no such place", vale.restore(-1), false);
    }

    private static void promise42() {
        EchoVale vale = Check.vale("snow 1 3;land 7 6;cliff p 0 0 1 9;person a 0 1;person b 4 1;");
        vale.says(0, 9, 4);
        vale.on(1);
        Check.tape(vale, "abc");
        int[] wanted = {7, 6, 1, 2, 1, 1, 1, 3, 3};
        for (int what = 0; what < 9; what++) {
            due("count " + what, vale.count(what), wanted[what]);
        }
        due("no such what", vale.count(9), NONE);
        due("no such what", vale.count(-1), NONE);
    }

    // What comes is 5; STRENGTH 6 less snow of the HOUR in which it SOUNDS caps it, and is not taken from it.
    private static void snowAndForce() {
        int[] snow = {0, 1, 2, 5, 6};
        int[] force = {5, 5, 4, 1, NONE};
        for (int i = 0; i < snow.length; i++) {
            EchoVale vale = Check.vale("land 5 5;cliff p 0 0 3 6;person a 0 0;snow 0 9;snow 3 " + snow[i] + ";snow 4 9;");
            vale.says(0, 5, 5);
            vale.on(3);
            due("force in snow " + snow[i], vale.sounded(0, 3), force[i]);
        }
    }
}
