import java.util.Arrays;
import java.util.NoSuchElementException;

/** A valley in which whatever is said comes back from cliffs and belongs to whoever is there to hear it. */
public final class EchoVale {
    public static final int NONE = -1;

    private static final int MOST_TAPE = 940;
    private static final int FED_BYTES = 20;
    private static final int MOST_VALLEY_BYTES = 900;
    private static final int MOST_CLAIMS_BYTES = 300;
    private static final int MOST_SENTENCE_BYTES = 200;

    private static final int CELLS = 100;
    private static final int MOST_SIDE = 10;
    private static final int MOST_CLIFFS = 6;
    private static final int MOST_PERSONS = 6;
    private static final int MOST_MOVES = 20;
    private static final int MOST_FELTS = 8;
    private static final int MOST_SNOWS = 6;
    private static final int MOST_CLAIMS = 30;

    private static final int LAST_HOUR = 400;
    private static final int LAST_MOVE = 200;
    private static final int MOST_AHEAD = 60;
    private static final int MOST_HOURS = 100;
    private static final int YEAR_HOURS = 40;
    private static final int MOST_YEARS = 40;
    private static final int MOST_WORTH = 99;
    private static final int LOUDEST = 9;
    private static final int FELT_TAKES = 2;
    private static final int MOST_SAYINGS = 30;
    private static final int MOST_ECHOES = MOST_SAYINGS * MOST_CLIFFS;
    private static final int MOST_UNDONE = 8;
    private static final int IMAGES = 2;
    private static final int NEVER = 1000000;

    // What Course keeps of a SAYING, in the order in which saying() numbers it.
    private static final int FACTS = 8;
    private static final int WORTH = 0;
    private static final int SPEAKER = 1;
    private static final int SAID_AT = 2;
    private static final int FROM = 3;
    private static final int LOUD = 4;
    private static final int OWNERS = 5;
    private static final int TIMES = 6;
    private static final int HEARERS = 7;

    // What Course keeps of each time something SOUNDED, in the order in which sounded() numbers it.
    private static final int ECHO = 5;
    private static final int ECHO_SAYING = 0;
    private static final int ECHO_CLIFF = 1;
    private static final int ECHO_HOUR = 2;
    private static final int ECHO_FORCE = 3;
    private static final int ECHO_HEARERS = 4;

    // Kinds of TOKENS.
    private static final int END = 0;
    private static final int BAD = 1;
    private static final int NAME = 2;
    private static final int KEYWORD = 3;
    private static final int NUMBER = 4;
    private static final int SIGN = 5;

    // Kinds of FAULTS.
    private static final int CANT_COME = 1;
    private static final int NOT_AS_TOLD = 2;
    private static final int WRONG_NAME = 3;
    private static final int TOO_MANY = 4;

    // The WORDS that are no NAMES, in the order of KEYWORDS.
    private static final String KEYWORDS =
        "land cliff person move camp felt snow owns said heard or and not lost joint of by worth loud hour echoes ";
    private static final int WORDS = 21;
    private static final int WORD_LAND = 0;
    private static final int WORD_CLIFF = 1;
    private static final int WORD_PERSON = 2;
    private static final int WORD_MOVE = 3;
    private static final int WORD_CAMP = 4;
    private static final int WORD_FELT = 5;
    private static final int WORD_SNOW = 6;
    private static final int WORD_OWNS = 7;
    private static final int WORD_SAID = 8;
    private static final int WORD_HEARD = 9;
    private static final int WORD_OR = 10;
    private static final int WORD_AND = 11;
    private static final int WORD_NOT = 12;
    private static final int WORD_LOST = 13;
    private static final int WORD_JOINT = 14;
    private static final int WORD_OF = 15;
    private static final int WORD_BY = 16;
    private static final int WORD_WORTH = 17;
    private static final int WORD_LOUD = 18;
    private static final int WORD_HOUR = 19;
    private static final int WORD_ECHOES = 20;

    private static final int MOST_LETTERS = 7;
    private static final int MOST_DIGITS = 3;
    private static final int LETTER_BITS = 5;
    private static final int LETTER_MASK = 31;
    private static final int MOST_ONES = 20;
    private static final int MOST_WITHIN = 8;
    // Twenty ONES, and fewer than twenty 'and' and 'or' that join them.
    private static final int MOST_STEPS = 2 * MOST_ONES;
    private static final int STEP = 3;

    private static final int MOST_PIECES = 6;
    private static final int PIECE_BYTES = 3;
    private static final int MOST_WAYS = 50;
    private static final int LAST_PIECE_SAID = 200;
    private static final int MOST_WRITTEN = MOST_CLIFFS * 16;

    private final Reader reader;
    private final Valley valley;
    private final ValleyText valleyText;
    private final ClaimsText claimsText;
    private final Sentence sentence;
    private final SentenceText sentenceText;
    private final Course course;
    private final Course ahead;
    private final Undo undoRows;
    private final Image[] images;
    private final Pieces clues;
    private final Draws draws;
    private final int[] outcome;
    private final int[] written;
    private int writtenBytes;
    private int toldStorms;
    private int toldSayings;

    public EchoVale() {
        reader = new Reader();
        valley = new Valley();
        valleyText = new ValleyText(reader);
        claimsText = new ClaimsText(reader);
        sentence = new Sentence();
        sentenceText = new SentenceText(reader);
        course = new Course();
        ahead = new Course();
        undoRows = new Undo();
        images = new Image[IMAGES];
        for (int k = 0; k < IMAGES; k++) {
            images[k] = new Image();
        }
        clues = new Pieces();
        draws = new Draws();
        outcome = new int[(1 << MOST_PERSONS) * MOST_PERSONS];
        written = new int[MOST_WRITTEN];
        toldStorms = NONE;
        toldSayings = NONE;
    }

    public int feed(int a, int b, int c, int d, int e) {
        if (reader.length + FED_BYTES > MOST_TAPE) {
            return NONE;
        }
        reader.addBytes(a);
        reader.addBytes(b);
        reader.addBytes(c);
        reader.addBytes(d);
        reader.addBytes(e);
        return reader.length;
    }

    public boolean end(int n) {
        if (n < 0 || n > reader.length) {
            return false;
        }
        reader.length = n;
        return true;
    }

    public int valley() {
        boolean good = valleyText.readText();
        reader.length = 0;
        if (!good) {
            return -1 - reader.place;
        }
        valley.copyFrom(valleyText.valley);
        course.begin(valley);
        sentence.clear();
        undoRows.forget();
        return valleyText.lines;
    }

    public int fault() {
        return reader.fault;
    }

    public int cliff(int c, int what) throws NoSuchElementException {
        if (!isCliff(c) || what < 0 || what > 3) {
            throw new NoSuchElementException("no such cliff");
        }
        switch (what) {
            case 0:
                return valley.cliffCell[c];
            case 1:
                return valley.delay[c];
            case 2:
                return valley.strength[c];
            default:
                return Math.max(0, valley.strength[c] - valley.snowAt(course.hour));
        }
    }

    public int person(int p, int what) throws NoSuchElementException {
        if (!isPerson(p) || what < 0 || what > 5) {
            throw new NoSuchElementException("no such person");
        }
        switch (what) {
            case 0:
                return course.place[p];
            case 1:
                return course.wealth(p);
            case 2:
                return course.countWith(OWNERS, p);
            case 3:
                return course.countBy(p);
            case 4:
                return course.countWith(HEARERS, p);
            default:
                return valley.campCell[p];
        }
    }

    public int saying(int s, int what) throws NoSuchElementException {
        if (!isSaying(s) || what < 0 || what >= FACTS) {
            throw new NoSuchElementException("no such saying");
        }
        return course.fact(s, what);
    }

    public int comes(int s, int c, int what) {
        if (!isSaying(s) || !isCliff(c)) {
            return NONE;
        }
        switch (what) {
            case 0:
                return course.due[s * MOST_CLIFFS + c];
            case 1:
                return course.due[s * MOST_CLIFFS + c] == NONE ? NONE : course.force[s * MOST_CLIFFS + c];
            default:
                return NONE;
        }
    }

    public int share(int p, int s) {
        return isPerson(p) && isSaying(s) ? course.shareOf(p, s) : NONE;
    }

    public int sounded(int k, int what) {
        if (k < 0 || k >= course.echoes || what < 0 || what >= ECHO) {
            return NONE;
        }
        return course.logged(k, what);
    }

    public boolean goes(int p, int at) {
        if (!isPerson(p) || !valley.isCell(at)) {
            return false;
        }
        undoRows.keep(course);
        course.place[p] = at;
        return true;
    }

    public int says(int p, int worth, int loud) {
        if (!isPerson(p) || !isLoud(loud) || worth < 1 || worth > MOST_WORTH || course.isFull()) {
            return NONE;
        }
        undoRows.keep(course);
        return course.speak(valley, p, worth, loud);
    }

    public int on(int n) {
        if (n < 1 || n > MOST_HOURS) {
            return NONE;
        }
        if (course.hour >= LAST_HOUR) {
            return 0;
        }
        undoRows.keep(course);
        return course.passHours(valley, n);
    }

    public int undo() {
        return undoRows.takeBack(course) ? undoRows.kept : NONE;
    }

    public int camp(int p, int n) {
        if (!isPerson(p) || !isAhead(n)) {
            return NONE;
        }
        int best = NONE;
        int most = NONE;
        for (int at = 0; at < CELLS; at++) {
            int got = valley.isCell(at) ? wealthByCamping(p, at, n) : NONE;
            if (got > most) {
                most = got;
                best = at;
            }
        }
        return best;
    }

    public int camping(int p, int at, int n) {
        if (!isPerson(p) || !valley.isCell(at) || !isAhead(n)) {
            return NONE;
        }
        return wealthByCamping(p, at, n);
    }

    public int has(int p, int camps, int n) {
        if (!isPerson(p) || !isAhead(n) || !areCamps(camps)) {
            return NONE;
        }
        passByCamps(camps, n);
        return ahead.wealth(p);
    }

    public int rests(int n, int k) {
        if (!isAhead(n) || k < NONE) {
            return NONE;
        }
        for (int camps = 0; camps < 1 << MOST_PERSONS; camps++) {
            if (areCamps(camps)) {
                passByCamps(camps, n);
                keepOutcome(camps);
            }
        }
        int found = 0;
        for (int camps = 0; camps < 1 << MOST_PERSONS; camps++) {
            if (areCamps(camps) && isRest(camps)) {
                if (found == k) {
                    return camps;
                }
                found++;
            }
        }
        return k == NONE ? found : NONE;
    }

    public int tells(int p, int q, int loud, int n, int k) {
        if (!isPerson(p) || !isPerson(q) || p == q || !isLoud(loud) || !isAhead(n) || k < NONE || course.isFull()) {
            return NONE;
        }
        int found = 0;
        for (int at = 0; at < CELLS; at++) {
            if (valley.isCell(at)) {
                passOneSaying(p, at, loud, n);
                if (ahead.fact(0, OWNERS) == 1 << q) {
                    if (found == k) {
                        return at;
                    }
                    found++;
                }
            }
        }
        return k == NONE ? found : NONE;
    }

    public int secret(int p, int n) {
        if (!isPerson(p) || !isAhead(n) || course.isFull()) {
            return NONE;
        }
        for (int loud = LOUDEST; loud > 0; loud--) {
            passOneSaying(p, course.place[p], loud, n);
            if (ahead.fact(0, HEARERS) == 0) {
                return loud;
            }
        }
        return 0;
    }

    public int next(int n) {
        if (n < 1 || n > MOST_HOURS) {
            return NONE;
        }
        ahead.copyFrom(course);
        for (int i = 0; i < n && ahead.hour < LAST_HOUR; i++) {
            ahead.pass(valley, 0);
            if (ahead.echoes > course.echoes) {
                return ahead.hour;
            }
        }
        return NONE;
    }

    public int heirs(int s, int n) {
        if (!isSaying(s) || !isAhead(n)) {
            return NONE;
        }
        ahead.copyFrom(course);
        ahead.passHours(valley, n);
        return ahead.fact(s, OWNERS);
    }

    public int when(int p, int s, int n) {
        if (!isPerson(p) || !isSaying(s) || n < 1 || n > MOST_HOURS) {
            return NONE;
        }
        ahead.copyFrom(course);
        ahead.passHours(valley, n);
        for (int k = course.echoes; k < ahead.echoes; k++) {
            if (ahead.logged(k, ECHO_SAYING) == s && hasBit(ahead.logged(k, ECHO_HEARERS), p)) {
                return ahead.logged(k, ECHO_HOUR);
            }
        }
        return NONE;
    }

    public int meets(int p, int q, int n) {
        if (!isPerson(p) || !isPerson(q) || !isAhead(n)) {
            return NONE;
        }
        ahead.copyPlaces(course);
        int met = 0;
        for (int i = 0; i < n && ahead.hour < LAST_HOUR; i++) {
            ahead.pass(valley, 0);
            if (ahead.place[p] == ahead.place[q]) {
                met++;
            }
        }
        return met;
    }

    public int nearest(int at, int loud) {
        if (!valley.isCell(at)) {
            return NONE;
        }
        // No bound is told for LOUD here; what is below 0 comes nowhere, as 0 does, and must not wrap around on felt.
        int left = valley.lessFelt(at, Math.max(0, loud));
        int best = NONE;
        int most = 0;
        for (int c = 0; c < valley.cliffs; c++) {
            int got = Math.min(valley.directly(c, at, left), valley.strength[c]);
            if (got > most) {
                most = got;
                best = c;
            }
        }
        return best;
    }

    public int pieces() {
        boolean good = clues.take(reader, valley);
        reader.length = 0;
        return good ? clues.find(valley, ahead) : NONE;
    }

    public int piece(int k) {
        if (k < 0 || k >= clues.found || k >= MOST_WAYS) {
            return NONE;
        }
        return clues.ways[k];
    }

    public int claims() {
        boolean good = claimsText.readText(valley, course);
        reader.length = 0;
        return good ? claimsText.wrongLine : -2 - reader.place;
    }

    public int drawn(int n, int seed) {
        if (n < 1 || n > MOST_HOURS || valley.persons == 0) {
            return NONE;
        }
        if (course.hour < LAST_HOUR) {
            undoRows.keep(course);
        }
        int passed = draws.passHours(valley, course, n, seed);
        toldStorms = draws.storms;
        toldSayings = draws.sayings;
        return passed;
    }

    public int storms(int what) {
        switch (what) {
            case 0:
                return toldStorms;
            case 1:
                return toldSayings;
            default:
                return NONE;
        }
    }

    public int odds(int p, int n, int seed) {
        if (!isPerson(p) || n < 1 || n > MOST_YEARS) {
            return NONE;
        }
        int now = course.wealth(p);
        int richer = 0;
        for (int i = 0; i < n; i++) {
            ahead.copyFrom(course);
            draws.passHours(valley, ahead, YEAR_HOURS, seed + i);
            if (ahead.wealth(p) > now) {
                richer++;
            }
        }
        return richer;
    }

    public int poorest(int most) {
        if (most < 0 || most > 1) {
            return NONE;
        }
        int sign = most == 1 ? -1 : 1;
        int best = NONE;
        int least = 0;
        for (int p = 0; p < valley.persons; p++) {
            int got = sign * course.wealth(p);
            if (best == NONE || got < least) {
                least = got;
                best = p;
            }
        }
        return best;
    }

    public int reach(int at, int loud) {
        if (!valley.isCell(at) || !isLoud(loud)) {
            return NONE;
        }
        int left = valley.lessFelt(at, loud);
        int bits = 0;
        for (int c = 0; c < valley.cliffs; c++) {
            if (valley.directly(c, at, left) > 0) {
                bits |= 1 << c;
            }
        }
        return bits;
    }

    public int hears(int c, int force) {
        return isCliff(c) && isLoud(force) ? valley.hearersAt(c, force, course.place) : NONE;
    }

    public int write(int s) {
        if (!isSaying(s)) {
            return NONE;
        }
        writtenBytes = 0;
        for (int k = 0; k < course.echoes; k++) {
            if (course.logged(k, ECHO_SAYING) == s) {
                putName(valley.cliffName[course.logged(k, ECHO_CLIFF)]);
                put(' ');
                putNumber(course.logged(k, ECHO_HOUR));
                put(' ');
                putNumber(course.logged(k, ECHO_FORCE));
                put(';');
            }
        }
        return writtenBytes;
    }

    public int byteAt(int i) {
        return i >= 0 && i < writtenBytes ? written[i] : NONE;
    }

    public int sentence() {
        boolean good = sentenceText.readText(valley);
        reader.length = 0;
        if (!good) {
            return -1 - reader.place;
        }
        sentence.copyFrom(sentenceText.sentence);
        return sentence.ones;
    }

    public int said(int k) {
        if (sentence.ones == 0 || k < NONE) {
            return NONE;
        }
        int found = 0;
        for (int s = 0; s < course.sayings; s++) {
            if (sentence.holds(course, s)) {
                if (found == k) {
                    return s;
                }
                found++;
            }
        }
        return k == NONE ? found : NONE;
    }

    public boolean image(int k) {
        if (k < 0 || k >= IMAGES) {
            return false;
        }
        images[k].valley.copyFrom(valley);
        images[k].course.copyFrom(course);
        images[k].sentence.copyFrom(sentence);
        images[k].kept = true;
        return true;
    }

    public boolean restore(int k) {
        if (k < 0 || k >= IMAGES || !images[k].kept) {
            return false;
        }
        valley.copyFrom(images[k].valley);
        course.copyFrom(images[k].course);
        sentence.copyFrom(images[k].sentence);
        undoRows.forget();
        return true;
    }

    public int count(int what) {
        switch (what) {
            case 0:
                return valley.width;
            case 1:
                return valley.height;
            case 2:
                return valley.cliffs;
            case 3:
                return valley.persons;
            case 4:
                return course.hour;
            case 5:
                return course.sayings;
            case 6:
                return course.echoes;
            case 7:
                return valley.snowAt(course.hour);
            case 8:
                return reader.length;
            default:
                return NONE;
        }
    }

    private boolean isCliff(int c) {
        return c >= 0 && c < valley.cliffs;
    }

    private boolean isPerson(int p) {
        return p >= 0 && p < valley.persons;
    }

    private boolean isSaying(int s) {
        return s >= 0 && s < course.sayings;
    }

    private static boolean isLoud(int loud) {
        return loud >= 1 && loud <= LOUDEST;
    }

    private static boolean isAhead(int n) {
        return n >= 1 && n <= MOST_AHEAD;
    }

    private static boolean hasBit(int bits, int p) {
        return (bits >> p & 1) == 1;
    }

    private int wealthByCamping(int p, int at, int n) {
        ahead.copyFrom(course);
        ahead.place[p] = at;
        ahead.passHours(valley, n);
        return ahead.wealth(p);
    }

    private boolean areCamps(int camps) {
        return (camps & ~valley.campers()) == 0;
    }

    private void passByCamps(int camps, int n) {
        ahead.copyFrom(course);
        for (int p = 0; p < valley.persons; p++) {
            if (hasBit(camps, p)) {
                ahead.place[p] = valley.campCell[p];
            }
        }
        ahead.passHours(valley, n);
    }

    private void keepOutcome(int camps) {
        for (int p = 0; p < valley.persons; p++) {
            outcome[camps * MOST_PERSONS + p] = ahead.wealth(p);
        }
    }

    private boolean isRest(int camps) {
        int campers = valley.campers();
        for (int p = 0; p < valley.persons; p++) {
            int changed = camps ^ 1 << p;
            if (hasBit(campers, p) && outcome[changed * MOST_PERSONS + p] > outcome[camps * MOST_PERSONS + p]) {
                return false;
            }
        }
        return true;
    }

    // SAYINGS do not touch one another, so the new one may go alone, as number 0.
    private void passOneSaying(int p, int at, int loud, int n) {
        ahead.copyPlaces(course);
        ahead.place[p] = at;
        ahead.speak(valley, p, 1, loud);
        ahead.passHours(valley, n);
    }

    private void put(int b) {
        if (writtenBytes < MOST_WRITTEN) {
            written[writtenBytes] = b;
            writtenBytes++;
        }
    }

    private void putName(long name) {
        for (int i = MOST_LETTERS - 1; i >= 0; i--) {
            int letter = (int) (name >> i * LETTER_BITS) & LETTER_MASK;
            if (letter > 0) {
                put('a' + letter - 1);
            }
        }
    }

    private void putNumber(int number) {
        if (number >= 100) {
            put('0' + number / 100);
        }
        if (number >= 10) {
            put('0' + number / 10 % 10);
        }
        put('0' + number % 10);
    }

    /** The tape, and the TOKENS of the text on it, one at a time, with the FAULT that was found. */
    private static final class Reader {
        final int[] bytes = new int[MOST_TAPE];
        int length;
        int fault;
        int place;
        int kind;
        int start;
        int value;
        long word;
        private int at;
        private int most;
        private final long[] keywords = packKeywords();

        private static long[] packKeywords() {
            long[] packed = new long[WORDS];
            int filled = 0;
            long letters = 0;
            for (int i = 0; i < KEYWORDS.length() && filled < WORDS; i++) {
                if (KEYWORDS.charAt(i) == ' ') {
                    packed[filled] = letters;
                    filled++;
                    letters = 0;
                } else {
                    letters = withLetter(letters, KEYWORDS.charAt(i));
                }
            }
            return packed;
        }

        private static long withLetter(long letters, int letter) {
            return letters << LETTER_BITS | (letter - 'a' + 1);
        }

        void addBytes(int number) {
            for (int shift = 24; shift >= 0 && length < MOST_TAPE; shift -= 8) {
                bytes[length] = number >>> shift & 255;
                length++;
            }
        }

        void open(int mostBytes) {
            most = mostBytes;
            at = 0;
            fault = 0;
            place = 0;
            step();
        }

        void step() {
            int stop = Math.min(length, most);
            while (at < stop && isBlank(bytes[at])) {
                at++;
            }
            start = Math.min(at, stop);
            if (at >= stop) {
                kind = END;
            } else if (isLetter(bytes[at]) || isDigit(bytes[at])) {
                readRun();
            } else {
                value = bytes[at];
                kind = isMark(value) ? SIGN : BAD;
                at++;
            }
        }

        // A run that begins ahead of the most bytes is read whole, even beyond them.
        private void readRun() {
            int letters = 0;
            int digits = 0;
            word = 0;
            value = 0;
            for (; at < length && (isLetter(bytes[at]) || isDigit(bytes[at])); at++) {
                if (isLetter(bytes[at])) {
                    letters++;
                    word = letters <= MOST_LETTERS ? withLetter(word, bytes[at]) : 0;
                } else {
                    digits++;
                    value = digits <= MOST_DIGITS ? value * 10 + bytes[at] - '0' : 0;
                }
            }
            if (digits == 0 && letters <= MOST_LETTERS) {
                value = keywordOf(word);
                kind = value == NONE ? NAME : KEYWORD;
            } else {
                kind = letters == 0 && digits <= MOST_DIGITS ? NUMBER : BAD;
            }
        }

        private int keywordOf(long letters) {
            for (int i = 0; i < WORDS; i++) {
                if (keywords[i] == letters) {
                    return i;
                }
            }
            return NONE;
        }

        private static boolean isBlank(int b) {
            return b == 32 || b == 10;
        }

        private static boolean isLetter(int b) {
            return b >= 'a' && b <= 'z';
        }

        private static boolean isDigit(int b) {
            return b >= '0' && b <= '9';
        }

        private static boolean isMark(int b) {
            return b == ';' || b == '<' || b == '=' || b == '>' || b == '(' || b == ')';
        }

        boolean refuse(int faultKind) {
            fault = faultKind;
            place = start;
            return false;
        }

        /** The text ends here, and has no more bytes than it may have. */
        boolean isAtEnd() {
            return kind == END && length <= most;
        }

        boolean isWord(int keyword) {
            return kind == KEYWORD && value == keyword;
        }

        boolean isSign(int mark) {
            return kind == SIGN && value == mark;
        }

        /** Stays at the NUMBER, so that what else is wrong with it can be told there. */
        boolean isNumber(int low, int high) {
            if (kind != NUMBER) {
                return refuse(CANT_COME);
            }
            return value >= low && value <= high || refuse(NOT_AS_TOLD);
        }

        boolean passSign(int mark) {
            if (!isSign(mark)) {
                return refuse(CANT_COME);
            }
            step();
            return true;
        }

        /** The PERSON that is named here, or NONE with a FAULT; stays at the WORD. */
        int personHere(Valley valley) {
            if (kind != NAME) {
                refuse(CANT_COME);
                return NONE;
            }
            int p = valley.personNamed(word);
            if (p == NONE) {
                refuse(WRONG_NAME);
            }
            return p;
        }
    }

    /** What a VALLEY's text tells. */
    private static final class Valley {
        int width;
        int height;
        int cliffs;
        int persons;
        int moves;
        int felts;
        int snows;
        final long[] cliffName = new long[MOST_CLIFFS];
        final int[] cliffCell = new int[MOST_CLIFFS];
        final int[] delay = new int[MOST_CLIFFS];
        final int[] strength = new int[MOST_CLIFFS];
        final long[] personName = new long[MOST_PERSONS];
        final int[] home = new int[MOST_PERSONS];
        final int[] campCell = new int[MOST_PERSONS];
        final int[] moveHour = new int[MOST_MOVES];
        final int[] movePerson = new int[MOST_MOVES];
        final int[] moveCell = new int[MOST_MOVES];
        final int[] feltCell = new int[MOST_FELTS];
        final int[] snowHour = new int[MOST_SNOWS];
        final int[] snowDepth = new int[MOST_SNOWS];

        void clear() {
            width = 0;
            height = 0;
            cliffs = 0;
            persons = 0;
            moves = 0;
            felts = 0;
            snows = 0;
        }

        void copyFrom(Valley other) {
            width = other.width;
            height = other.height;
            cliffs = other.cliffs;
            persons = other.persons;
            moves = other.moves;
            felts = other.felts;
            snows = other.snows;
            System.arraycopy(other.cliffName, 0, cliffName, 0, MOST_CLIFFS);
            System.arraycopy(other.cliffCell, 0, cliffCell, 0, MOST_CLIFFS);
            System.arraycopy(other.delay, 0, delay, 0, MOST_CLIFFS);
            System.arraycopy(other.strength, 0, strength, 0, MOST_CLIFFS);
            System.arraycopy(other.personName, 0, personName, 0, MOST_PERSONS);
            System.arraycopy(other.home, 0, home, 0, MOST_PERSONS);
            System.arraycopy(other.campCell, 0, campCell, 0, MOST_PERSONS);
            System.arraycopy(other.moveHour, 0, moveHour, 0, MOST_MOVES);
            System.arraycopy(other.movePerson, 0, movePerson, 0, MOST_MOVES);
            System.arraycopy(other.moveCell, 0, moveCell, 0, MOST_MOVES);
            System.arraycopy(other.feltCell, 0, feltCell, 0, MOST_FELTS);
            System.arraycopy(other.snowHour, 0, snowHour, 0, MOST_SNOWS);
            System.arraycopy(other.snowDepth, 0, snowDepth, 0, MOST_SNOWS);
        }

        boolean isCell(int at) {
            return at >= 0 && at / MOST_SIDE < height && at % MOST_SIDE < width;
        }

        static int distance(int a, int b) {
            return Math.abs(a / MOST_SIDE - b / MOST_SIDE) + Math.abs(a % MOST_SIDE - b % MOST_SIDE);
        }

        int cliffNamed(long name) {
            for (int c = 0; c < cliffs; c++) {
                if (cliffName[c] == name) {
                    return c;
                }
            }
            return NONE;
        }

        int personNamed(long name) {
            for (int p = 0; p < persons; p++) {
                if (personName[p] == name) {
                    return p;
                }
            }
            return NONE;
        }

        boolean isTaken(long name) {
            return cliffNamed(name) != NONE || personNamed(name) != NONE;
        }

        boolean hasCliff(int cell) {
            for (int c = 0; c < cliffs; c++) {
                if (cliffCell[c] == cell) {
                    return true;
                }
            }
            return false;
        }

        boolean hasFelt(int cell) {
            for (int i = 0; i < felts; i++) {
                if (feltCell[i] == cell) {
                    return true;
                }
            }
            return false;
        }

        boolean hasMove(int p, int hour) {
            for (int i = 0; i < moves; i++) {
                if (movePerson[i] == p && moveHour[i] == hour) {
                    return true;
                }
            }
            return false;
        }

        boolean hasSnow(int hour) {
            for (int i = 0; i < snows; i++) {
                if (snowHour[i] == hour) {
                    return true;
                }
            }
            return false;
        }

        /** Snow of the latest HOUR told that is not behind this one. */
        int snowAt(int hour) {
            int latest = NONE;
            int depth = 0;
            for (int i = 0; i < snows; i++) {
                if (snowHour[i] <= hour && snowHour[i] > latest) {
                    latest = snowHour[i];
                    depth = snowDepth[i];
                }
            }
            return depth;
        }

        int lessFelt(int cell, int loud) {
            return hasFelt(cell) ? Math.max(0, loud - FELT_TAKES) : loud;
        }

        /** What comes to a CLIFF of what is said on a CELL; 0 if it is too far. */
        int directly(int c, int cell, int loud) {
            int far = distance(cliffCell[c], cell);
            return loud >= 1 && far <= loud ? loud - far / 2 : 0;
        }

        /** What comes to CLIFF d of what SOUNDS at another one; 0 if it is too far. */
        int onward(int c, int d, int force) {
            int far = distance(cliffCell[c], cliffCell[d]);
            return far <= force ? Math.max(0, force - 1 - far / 2) : 0;
        }

        int hearersAt(int c, int force, int[] place) {
            int bits = 0;
            for (int p = 0; p < persons && p < place.length; p++) {
                if (distance(cliffCell[c], place[p]) <= force) {
                    bits |= 1 << p;
                }
            }
            return bits;
        }

        int campers() {
            int bits = 0;
            for (int p = 0; p < persons; p++) {
                if (campCell[p] != NONE) {
                    bits |= 1 << p;
                }
            }
            return bits;
        }
    }

    /** Reads a VALLEY's text into a Valley of its own, so that a FAULT leaves the present one alone. */
    private static final class ValleyText {
        final Valley valley = new Valley();
        int lines;
        private final Reader reader;

        ValleyText(Reader reader) {
            this.reader = reader;
        }

        boolean readText() {
            valley.clear();
            lines = 0;
            reader.open(MOST_VALLEY_BYTES);
            for (int i = 0; i < MOST_TAPE && !reader.isAtEnd(); i++) {
                if (!readLine() || !reader.passSign(';')) {
                    return false;
                }
                lines++;
            }
            return true;
        }

        private boolean readLine() {
            if (reader.kind != KEYWORD) {
                return reader.refuse(CANT_COME);
            }
            switch (reader.value) {
                case WORD_LAND:
                    return readLand();
                case WORD_CLIFF:
                    return readCliff();
                case WORD_PERSON:
                    return readPerson();
                case WORD_MOVE:
                    return readMove();
                case WORD_CAMP:
                    return readCamp();
                case WORD_FELT:
                    return readFelt();
                case WORD_SNOW:
                    return readSnow();
                default:
                    return reader.refuse(CANT_COME);
            }
        }

        private boolean readLand() {
            if (valley.width > 0) {
                return reader.refuse(WRONG_NAME);
            }
            reader.step();
            if (!reader.isNumber(2, MOST_SIDE)) {
                return false;
            }
            int width = reader.value;
            reader.step();
            if (!reader.isNumber(2, MOST_SIDE)) {
                return false;
            }
            valley.width = width;
            valley.height = reader.value;
            reader.step();
            return true;
        }

        private boolean readCliff() {
            int c = valley.cliffs;
            if (c >= MOST_CLIFFS) {
                return reader.refuse(TOO_MANY);
            }
            reader.step();
            if (!isNewName()) {
                return false;
            }
            long name = reader.word;
            reader.step();
            int cell = cellHere();
            if (cell == NONE) {
                return false;
            }
            if (valley.hasCliff(cell)) {
                return reader.refuse(WRONG_NAME);
            }
            reader.step();
            if (!reader.isNumber(1, 40)) {
                return false;
            }
            int delay = reader.value;
            reader.step();
            if (!reader.isNumber(1, 9)) {
                return false;
            }
            valley.cliffName[c] = name;
            valley.cliffCell[c] = cell;
            valley.delay[c] = delay;
            valley.strength[c] = reader.value;
            valley.cliffs = c + 1;
            reader.step();
            return true;
        }

        private boolean readPerson() {
            int p = valley.persons;
            if (p >= MOST_PERSONS) {
                return reader.refuse(TOO_MANY);
            }
            reader.step();
            if (!isNewName()) {
                return false;
            }
            long name = reader.word;
            reader.step();
            int cell = cellHere();
            if (cell == NONE) {
                return false;
            }
            valley.personName[p] = name;
            valley.home[p] = cell;
            valley.campCell[p] = NONE;
            valley.persons = p + 1;
            reader.step();
            return true;
        }

        private boolean readMove() {
            int i = valley.moves;
            if (i >= MOST_MOVES) {
                return reader.refuse(TOO_MANY);
            }
            reader.step();
            int p = reader.personHere(valley);
            if (p == NONE) {
                return false;
            }
            reader.step();
            if (!reader.isNumber(1, LAST_MOVE)) {
                return false;
            }
            int hour = reader.value;
            if (valley.hasMove(p, hour)) {
                return reader.refuse(WRONG_NAME);
            }
            reader.step();
            int cell = cellHere();
            if (cell == NONE) {
                return false;
            }
            valley.movePerson[i] = p;
            valley.moveHour[i] = hour;
            valley.moveCell[i] = cell;
            valley.moves = i + 1;
            reader.step();
            return true;
        }

        private boolean readCamp() {
            reader.step();
            int p = reader.personHere(valley);
            if (p == NONE) {
                return false;
            }
            if (valley.campCell[p] != NONE) {
                return reader.refuse(WRONG_NAME);
            }
            reader.step();
            int cell = cellHere();
            if (cell == NONE) {
                return false;
            }
            valley.campCell[p] = cell;
            reader.step();
            return true;
        }

        private boolean readFelt() {
            int i = valley.felts;
            if (i >= MOST_FELTS) {
                return reader.refuse(TOO_MANY);
            }
            reader.step();
            int cell = cellHere();
            if (cell == NONE) {
                return false;
            }
            if (valley.hasFelt(cell)) {
                return reader.refuse(WRONG_NAME);
            }
            valley.feltCell[i] = cell;
            valley.felts = i + 1;
            reader.step();
            return true;
        }

        private boolean readSnow() {
            int i = valley.snows;
            if (i >= MOST_SNOWS) {
                return reader.refuse(TOO_MANY);
            }
            reader.step();
            if (!reader.isNumber(0, 200)) {
                return false;
            }
            int hour = reader.value;
            if (valley.hasSnow(hour)) {
                return reader.refuse(WRONG_NAME);
            }
            reader.step();
            if (!reader.isNumber(0, 9)) {
                return false;
            }
            valley.snowHour[i] = hour;
            valley.snowDepth[i] = reader.value;
            valley.snows = i + 1;
            reader.step();
            return true;
        }

        private boolean isNewName() {
            if (reader.kind != NAME) {
                return reader.refuse(CANT_COME);
            }
            return !valley.isTaken(reader.word) || reader.refuse(WRONG_NAME);
        }

        /** The CELL told by X and Y, or NONE with a FAULT; stays at Y. Without a land no X is as told. */
        private int cellHere() {
            if (!reader.isNumber(0, valley.width - 1)) {
                return NONE;
            }
            int x = reader.value;
            reader.step();
            return reader.isNumber(0, valley.height - 1) ? reader.value * MOST_SIDE + x : NONE;
        }
    }

    /** Reads CLAIMS, and judges each LINE as it is now. */
    private static final class ClaimsText {
        int wrongLine;
        private final Reader reader;

        ClaimsText(Reader reader) {
            this.reader = reader;
        }

        boolean readText(Valley valley, Course course) {
            wrongLine = NONE;
            reader.open(MOST_CLAIMS_BYTES);
            for (int line = 0; line < MOST_TAPE && !reader.isAtEnd(); line++) {
                if (!readLine(valley, course, line)) {
                    return false;
                }
            }
            return true;
        }

        private boolean readLine(Valley valley, Course course, int line) {
            int verb = reader.kind == KEYWORD ? reader.value : NONE;
            if (verb != WORD_OWNS && verb != WORD_SAID && verb != WORD_HEARD) {
                return reader.refuse(CANT_COME);
            }
            if (line >= MOST_CLAIMS) {
                return reader.refuse(TOO_MANY);
            }
            reader.step();
            int p = reader.personHere(valley);
            if (p == NONE) {
                return false;
            }
            reader.step();
            if (!reader.isNumber(0, MOST_SAYINGS - 1)) {
                return false;
            }
            if (wrongLine == NONE && !isSo(course, verb, p, reader.value)) {
                wrongLine = line;
            }
            reader.step();
            return reader.passSign(';');
        }

        private static boolean isSo(Course course, int verb, int p, int s) {
            if (s >= course.sayings) {
                return false;
            }
            if (verb == WORD_SAID) {
                return course.fact(s, SPEAKER) == p;
            }
            return hasBit(course.fact(s, verb == WORD_OWNS ? OWNERS : HEARERS), p);
        }
    }

    /** The HOUR, where the PERSONS are, and all that was said and SOUNDED. */
    private static final class Course {
        int hour;
        int sayings;
        int echoes;
        final int[] place = new int[MOST_PERSONS];
        // By SAYING and CLIFF: when it is given back, and what comes.
        final int[] due = new int[MOST_SAYINGS * MOST_CLIFFS];
        final int[] force = new int[MOST_SAYINGS * MOST_CLIFFS];
        private final int[] facts = new int[MOST_SAYINGS * FACTS];
        private final int[] log = new int[MOST_ECHOES * ECHO];
        // By SAYING: the HOUR in which the next CLIFF gives it back, so that quiet HOURS cost little.
        private final int[] soonest = new int[MOST_SAYINGS];

        void begin(Valley valley) {
            hour = 0;
            sayings = 0;
            echoes = 0;
            System.arraycopy(valley.home, 0, place, 0, MOST_PERSONS);
        }

        void copyFrom(Course other) {
            copyPlaces(other);
            sayings = other.sayings;
            echoes = other.echoes;
            System.arraycopy(other.due, 0, due, 0, sayings * MOST_CLIFFS);
            System.arraycopy(other.force, 0, force, 0, sayings * MOST_CLIFFS);
            System.arraycopy(other.facts, 0, facts, 0, sayings * FACTS);
            System.arraycopy(other.soonest, 0, soonest, 0, sayings);
            System.arraycopy(other.log, 0, log, 0, echoes * ECHO);
        }

        /** The other one's HOUR and places, with nothing said. */
        void copyPlaces(Course other) {
            hour = other.hour;
            sayings = 0;
            echoes = 0;
            System.arraycopy(other.place, 0, place, 0, MOST_PERSONS);
        }

        boolean isFull() {
            return sayings >= MOST_SAYINGS;
        }

        int fact(int s, int what) {
            return facts[s * FACTS + what];
        }

        int logged(int k, int what) {
            return log[k * ECHO + what];
        }

        /** What a PERSON says where it is: the SAYING's number, or NONE if there are too many. */
        int speak(Valley valley, int p, int worth, int loud) {
            int cell = place[p];
            return utter(valley, p, cell, worth, valley.lessFelt(cell, loud));
        }

        /** A SAYING from any CELL, so LOUD as it leaves there. */
        int utter(Valley valley, int p, int cell, int worth, int left) {
            int s = sayings;
            if (s >= MOST_SAYINGS) {
                return NONE;
            }
            int row = s * FACTS;
            facts[row + WORTH] = worth;
            facts[row + SPEAKER] = p;
            facts[row + SAID_AT] = hour;
            facts[row + FROM] = cell;
            facts[row + LOUD] = left;
            facts[row + OWNERS] = 1 << p;
            facts[row + TIMES] = 0;
            facts[row + HEARERS] = 0;
            Arrays.fill(due, s * MOST_CLIFFS, (s + 1) * MOST_CLIFFS, NONE);
            sayings = s + 1;
            for (int c = 0; c < valley.cliffs; c++) {
                offer(valley, s, c, valley.directly(c, cell, left));
            }
            findSoonest(s);
            return s;
        }

        // A CLIFF gives a SAYING back once: what comes first, of like ones the greater.
        private void offer(Valley valley, int s, int c, int what) {
            int i = s * MOST_CLIFFS + c;
            int then = hour + valley.delay[c];
            boolean given = due[i] != NONE && due[i] <= hour;
            if (what < 1 || given) {
                return;
            }
            if (due[i] == NONE || then < due[i] || then == due[i] && what > force[i]) {
                due[i] = then;
                force[i] = what;
            }
        }

        private void findSoonest(int s) {
            int first = NEVER;
            for (int i = s * MOST_CLIFFS; i < (s + 1) * MOST_CLIFFS; i++) {
                if (due[i] > hour && due[i] < first) {
                    first = due[i];
                }
            }
            soonest[s] = first;
        }

        boolean isPending(int s) {
            return soonest[s] != NEVER;
        }

        int passHours(Valley valley, int n) {
            int passed = 0;
            for (; passed < n && hour < LAST_HOUR; passed++) {
                pass(valley, 0);
            }
            return passed;
        }

        void pass(Valley valley, int storm) {
            hour++;
            for (int i = 0; i < valley.moves; i++) {
                if (valley.moveHour[i] == hour) {
                    place[valley.movePerson[i]] = valley.moveCell[i];
                }
            }
            for (int s = 0; s < sayings; s++) {
                if (soonest[s] == hour) {
                    giveBack(valley, s, storm);
                }
            }
        }

        /** To the HOUR in which SAYING s is given back next, as if nothing else were in the VALLEY. */
        boolean leap(Valley valley, int s) {
            if (!isPending(s)) {
                return false;
            }
            hour = soonest[s];
            giveBack(valley, s, 0);
            return true;
        }

        private void giveBack(Valley valley, int s, int storm) {
            int snow = valley.snowAt(hour);
            for (int c = 0; c < valley.cliffs; c++) {
                int i = s * MOST_CLIFFS + c;
                if (due[i] == hour) {
                    sound(valley, s, c, Math.min(force[i], valley.strength[c] - snow - storm));
                }
            }
            findSoonest(s);
        }

        private void sound(Valley valley, int s, int c, int loud) {
            if (loud < 1) {
                return;
            }
            int hearers = valley.hearersAt(c, loud, place);
            int row = s * FACTS;
            if (hearers != 0) {
                facts[row + OWNERS] = hearers;
            }
            facts[row + TIMES]++;
            facts[row + HEARERS] |= hearers;
            enterLog(s, c, loud, hearers);
            for (int d = 0; d < valley.cliffs; d++) {
                if (d != c) {
                    offer(valley, s, d, valley.onward(c, d, loud));
                }
            }
        }

        private void enterLog(int s, int c, int loud, int hearers) {
            if (echoes >= MOST_ECHOES) {
                return;
            }
            int row = echoes * ECHO;
            log[row + ECHO_SAYING] = s;
            log[row + ECHO_CLIFF] = c;
            log[row + ECHO_HOUR] = hour;
            log[row + ECHO_FORCE] = loud;
            log[row + ECHO_HEARERS] = hearers;
            echoes++;
        }

        int shareOf(int p, int s) {
            int owners = fact(s, OWNERS);
            int heads = Integer.bitCount(owners);
            if (heads == 0 || !hasBit(owners, p)) {
                return 0;
            }
            int firsts = Integer.bitCount(owners & (1 << p) - 1);
            int worth = fact(s, WORTH);
            return worth / heads + (firsts < worth % heads ? 1 : 0);
        }

        int wealth(int p) {
            int all = 0;
            for (int s = 0; s < sayings; s++) {
                all += shareOf(p, s);
            }
            return all;
        }

        /** SAYINGS whose owners, or hearers, the PERSON is among. */
        int countWith(int what, int p) {
            int found = 0;
            for (int s = 0; s < sayings; s++) {
                if (hasBit(fact(s, what), p)) {
                    found++;
                }
            }
            return found;
        }

        int countBy(int p) {
            int found = 0;
            for (int s = 0; s < sayings; s++) {
                if (fact(s, SPEAKER) == p) {
                    found++;
                }
            }
            return found;
        }
    }

    /** A SENTENCE, kept as steps of which each works on the answers of those ahead of it. */
    private static final class Sentence {
        int ones;
        private int steps;
        private final int[] code = new int[MOST_STEPS * STEP];
        private final boolean[] answers = new boolean[MOST_STEPS];

        void clear() {
            ones = 0;
            steps = 0;
        }

        void copyFrom(Sentence other) {
            ones = other.ones;
            steps = other.steps;
            System.arraycopy(other.code, 0, code, 0, steps * STEP);
        }

        void add(int word, int sign, int number) {
            if (steps < MOST_STEPS) {
                code[steps * STEP] = word;
                code[steps * STEP + 1] = sign;
                code[steps * STEP + 2] = number;
                steps++;
            }
        }

        boolean holds(Course course, int s) {
            int top = 0;
            for (int i = 0; i < steps; i++) {
                int word = code[i * STEP];
                if (word == WORD_NOT && top > 0) {
                    answers[top - 1] = !answers[top - 1];
                } else if (word == WORD_AND && top > 1) {
                    top--;
                    answers[top - 1] = answers[top - 1] && answers[top];
                } else if (word == WORD_OR && top > 1) {
                    top--;
                    answers[top - 1] = answers[top - 1] || answers[top];
                } else if (top < MOST_STEPS) {
                    answers[top] = isSo(course, s, i * STEP);
                    top++;
                }
            }
            return top > 0 && answers[top - 1];
        }

        private boolean isSo(Course course, int s, int row) {
            int sign = code[row + 1];
            int number = code[row + 2];
            switch (code[row]) {
                case WORD_LOST:
                    return course.fact(s, TIMES) == 0 && !course.isPending(s);
                case WORD_JOINT:
                    return Integer.bitCount(course.fact(s, OWNERS)) > 1;
                case WORD_OF:
                    return hasBit(course.fact(s, OWNERS), number);
                case WORD_BY:
                    return course.fact(s, SPEAKER) == number;
                case WORD_WORTH:
                    return compares(course.fact(s, WORTH), sign, number);
                case WORD_LOUD:
                    return compares(course.fact(s, LOUD), sign, number);
                case WORD_HOUR:
                    return compares(course.fact(s, SAID_AT), sign, number);
                case WORD_ECHOES:
                    return compares(course.fact(s, TIMES), sign, number);
                default:
                    return false;
            }
        }

        private static boolean compares(int a, int sign, int b) {
            if (sign == '<') {
                return a < b;
            }
            return sign == '>' ? a > b : a == b;
        }
    }

    /** Reads a SENTENCE's text into a Sentence of its own, so that a FAULT leaves the present one alone. */
    private static final class SentenceText {
        final Sentence sentence = new Sentence();
        private final Reader reader;

        SentenceText(Reader reader) {
            this.reader = reader;
        }

        boolean readText(Valley valley) {
            sentence.clear();
            reader.open(MOST_SENTENCE_BYTES);
            return readCondition(valley, 1) && (reader.isAtEnd() || reader.refuse(CANT_COME));
        }

        private boolean readCondition(Valley valley, int depth) {
            if (!readJoined(valley, depth)) {
                return false;
            }
            for (int i = 0; i < MOST_TAPE && reader.isWord(WORD_OR); i++) {
                reader.step();
                if (!readJoined(valley, depth)) {
                    return false;
                }
                sentence.add(WORD_OR, 0, 0);
            }
            return true;
        }

        private boolean readJoined(Valley valley, int depth) {
            if (!readOne(valley, depth)) {
                return false;
            }
            for (int i = 0; i < MOST_TAPE && reader.isWord(WORD_AND); i++) {
                reader.step();
                if (!readOne(valley, depth)) {
                    return false;
                }
                sentence.add(WORD_AND, 0, 0);
            }
            return true;
        }

        private boolean readOne(Valley valley, int depth) {
            // 'not' and all WORDS behind it in KEYWORDS begin a ONE.
            if (!reader.isSign('(') && !(reader.kind == KEYWORD && reader.value >= WORD_NOT)) {
                return reader.refuse(CANT_COME);
            }
            if (sentence.ones >= MOST_ONES || depth > MOST_WITHIN) {
                return reader.refuse(TOO_MANY);
            }
            sentence.ones++;
            if (reader.isSign('(')) {
                reader.step();
                return readCondition(valley, depth + 1) && reader.passSign(')');
            }
            if (reader.isWord(WORD_NOT)) {
                reader.step();
                if (!readOne(valley, depth + 1)) {
                    return false;
                }
                sentence.add(WORD_NOT, 0, 0);
                return true;
            }
            return readPlain(valley);
        }

        private boolean readPlain(Valley valley) {
            int word = reader.value;
            reader.step();
            if (word == WORD_LOST || word == WORD_JOINT) {
                sentence.add(word, 0, 0);
                return true;
            }
            if (word == WORD_OF || word == WORD_BY) {
                int p = reader.personHere(valley);
                if (p == NONE) {
                    return false;
                }
                sentence.add(word, 0, p);
                reader.step();
                return true;
            }
            if (!reader.isSign('<') && !reader.isSign('=') && !reader.isSign('>')) {
                return reader.refuse(CANT_COME);
            }
            int sign = reader.value;
            reader.step();
            if (reader.kind != NUMBER) {
                return reader.refuse(CANT_COME);
            }
            sentence.add(word, sign, reader.value);
            reader.step();
            return true;
        }
    }

    /** One place for an image. */
    private static final class Image {
        boolean kept;
        final Valley valley = new Valley();
        final Course course = new Course();
        final Sentence sentence = new Sentence();
    }

    /** What was there ahead of the latest acts: a ring, in which a ninth one takes the oldest one's place. */
    private static final class Undo {
        int kept;
        private int oldest;
        private final Course[] rows = new Course[MOST_UNDONE];

        Undo() {
            for (int i = 0; i < MOST_UNDONE; i++) {
                rows[i] = new Course();
            }
        }

        void forget() {
            kept = 0;
        }

        void keep(Course course) {
            if (kept == MOST_UNDONE) {
                oldest = (oldest + 1) % MOST_UNDONE;
                kept--;
            }
            rows[(oldest + kept) % MOST_UNDONE].copyFrom(course);
            kept++;
        }

        boolean takeBack(Course course) {
            if (kept == 0) {
                return false;
            }
            kept--;
            course.copyFrom(rows[(oldest + kept) % MOST_UNDONE]);
            return true;
        }
    }

    /** HOURS DRAWN by a seed. */
    private static final class Draws {
        int storms;
        int sayings;
        private int seed;

        private int draw(int n) {
            seed = seed * 1103515245 + 12345;
            return n < 1 ? 0 : (seed >>> 8) % n;
        }

        int passHours(Valley valley, Course course, int n, int firstSeed) {
            seed = firstSeed;
            storms = 0;
            sayings = 0;
            int passed = 0;
            for (; passed < n && course.hour < LAST_HOUR; passed++) {
                int storm = 0;
                if (draw(4) == 0) {
                    storm = draw(5);
                    storms++;
                }
                course.pass(valley, storm);
                if (draw(3) == 0) {
                    speak(valley, course);
                }
            }
            return passed;
        }

        private void speak(Valley valley, Course course) {
            int p = draw(valley.persons);
            int worth = draw(MOST_WORTH) + 1;
            int loud = draw(LOUDEST) + 1;
            if (p < valley.persons && !course.isFull()) {
                course.speak(valley, p, worth, loud);
                sayings++;
            }
        }
    }

    /** PIECES that were heard, and the ways in which one SAYING can have made all of them. */
    private static final class Pieces {
        int found;
        final int[] ways = new int[MOST_WAYS];
        private int heard;
        private final int[] cliff = new int[MOST_PIECES];
        private final int[] hour = new int[MOST_PIECES];
        private final int[] force = new int[MOST_PIECES];

        boolean take(Reader reader, Valley valley) {
            int n = reader.length / PIECE_BYTES;
            if (n < 1 || n > MOST_PIECES || n * PIECE_BYTES != reader.length) {
                return false;
            }
            for (int i = 0; i < n; i++) {
                cliff[i] = reader.bytes[i * PIECE_BYTES];
                hour[i] = reader.bytes[i * PIECE_BYTES + 1];
                force[i] = reader.bytes[i * PIECE_BYTES + 2];
                if (cliff[i] >= valley.cliffs || !isLoud(force[i])) {
                    return false;
                }
            }
            heard = n;
            return true;
        }

        int find(Valley valley, Course course) {
            found = 0;
            for (int then = 0; then <= LAST_PIECE_SAID; then++) {
                boolean can = canBegin(valley, then);
                for (int at = 0; at < CELLS && can; at++) {
                    for (int loud = 1; loud <= LOUDEST && valley.isCell(at); loud++) {
                        if (isWay(valley, course, then, at, loud)) {
                            addWay(then * 1000 + at * 10 + loud);
                        }
                    }
                }
            }
            return found;
        }

        private void addWay(int way) {
            if (found < MOST_WAYS) {
                ways[found] = way;
            }
            found++;
        }

        // From a SAYING to a CLIFF go the DELAYS of some CLIFFS, that one's too, each once at most: this spares
        // most of the HOURS.
        private boolean canBegin(Valley valley, int then) {
            for (int i = 0; i < heard; i++) {
                if (!canTake(valley, cliff[i], hour[i] - then)) {
                    return false;
                }
            }
            return true;
        }

        private static boolean canTake(Valley valley, int last, int hours) {
            for (int some = 0; some < 1 << valley.cliffs; some++) {
                int all = 0;
                for (int c = 0; c < valley.cliffs; c++) {
                    all += hasBit(some, c) ? valley.delay[c] : 0;
                }
                if (all == hours && hasBit(some, last)) {
                    return true;
                }
            }
            return false;
        }

        // How LOUD is meant as it leaves the CELL: felt takes nothing here.
        private boolean isWay(Valley valley, Course course, int then, int at, int loud) {
            course.hour = then;
            course.sayings = 0;
            course.echoes = 0;
            int s = course.utter(valley, 0, at, 1, loud);
            boolean more = s != NONE;
            for (int i = 0; i < MOST_CLIFFS && more; i++) {
                more = course.leap(valley, s);
            }
            for (int i = 0; i < heard; i++) {
                if (!isLogged(course, i)) {
                    return false;
                }
            }
            return true;
        }

        private boolean isLogged(Course course, int i) {
            for (int k = 0; k < course.echoes; k++) {
                if (course.logged(k, ECHO_CLIFF) == cliff[i] && course.logged(k, ECHO_HOUR) == hour[i]
                    && course.logged(k, ECHO_FORCE) == force[i]) {
                    return true;
                }
            }
            return false;
        }
    }
}
