/** Objects in told states, made anew by the same calls each time: one is used for at most 512 calls. */
final class States {
    /** Makes an object; two that are made by the same one are alike. */
    interface Made {
        EchoVale make();
    }

    // 8 wide, 7 high: its last CELL is 67. CLIFF r hears nothing of most.
    static final String TEXT = "land 8 7;cliff p 1 1 2 9;cliff q 5 1 3 7;cliff r 1 6 40 4;person a 0 1;person b 5 0;"
        + "person c 7 6;person d 3 3;camp b 2 2;camp d 6 6;move c 4 2 2;move a 200 1 1;felt 3 3;felt 0 6;"
        + "snow 3 2;snow 9 0;";
    static final int CLIFFS = 3;
    static final int PERSONS = 4;
    static final int LAST_CELL = 67;
    /** What the tape of busy(), full() and late() holds. */
    static final String ON_TAPE = "land 3 4;person z 2 3;";

    private States() {
    }

    /** Something of all: SAYINGS, what SOUNDED, a SENTENCE, an image, storms, PIECES, a text, a FAULT, acts, a tape. */
    static EchoVale busy() {
        EchoVale vale = Check.vale(TEXT);
        vale.says(0, 10, 8);
        vale.says(3, 7, 3);
        vale.on(3);
        Check.sentence(vale, "not lost or by b");
        vale.image(0);
        vale.says(1, 99, 9);
        vale.drawn(6, -3);
        Check.pieces(vale, 0, 2, 5);
        vale.on(1);
        vale.write(0);
        vale.goes(1, 67);
        vale.says(1, 13, 9);
        vale.says(2, 1, 1);
        vale.on(2);
        vale.says(0, 50, 6);
        Check.claims(vale, "owns p 0;");
        Check.tape(vale, ON_TAPE);
        return vale;
    }

    /** Thirty SAYINGS. */
    static EchoVale full() {
        EchoVale vale = Check.vale(TEXT);
        for (int s = 0; s < 30; s++) {
            vale.says(s % PERSONS, 1 + s, 1 + s % 9);
        }
        vale.on(2);
        Check.tape(vale, ON_TAPE);
        return vale;
    }

    /** HOUR 400. */
    static EchoVale late() {
        EchoVale vale = Check.vale(TEXT);
        vale.on(100);
        vale.on(100);
        vale.on(100);
        vale.on(97);
        vale.says(0, 10, 8);
        vale.on(3);
        vale.says(1, 20, 9);
        Check.tape(vale, ON_TAPE);
        return vale;
    }

    /** A land with neither CLIFFS nor PERSONS. */
    static EchoVale bare() {
        return Check.vale("land 8 7;felt 1 1;snow 1 1;");
    }
}
