import java.util.ArrayDeque;
import java.util.ArrayList;
import java.util.Deque;
import java.util.List;
import java.util.Random;
import java.util.function.Consumer;
import java.util.function.ToLongFunction;

/** Runs drawn by fixed seeds, each call's answer against that of PlainModel. */
public final class ModelTest {
    private static final int NONE = EchoVale.NONE;
    private static final String[] NAMES = {"a", "bb", "ccc", "dddd", "eeeee", "ffffff", "zyxwvut", "o", "ow", "lan",
        "lands", "persons", "nott", "an", "loude"};

    private final Random random;
    // An object is used for at most 512 calls: one that has too few left gives way to another, made by the same acts.
    private EchoVale vale = new EchoVale();
    private int left;
    private final List<Consumer<EchoVale>> acts = new ArrayList<>();
    private PlainModel model;
    private final Deque<PlainModel> undone = new ArrayDeque<>();
    private final String run;

    private ModelTest(int seed) {
        random = new Random(seed);
        run = "seed " + seed + ": ";
    }

    public static void main(String[] args) {
        for (int seed = 0; seed < 220; seed++) {
            new ModelTest(seed).go();
        }
        for (int seed = 1000; seed < 1012; seed++) {
            new ModelTest(seed).goPieces();
        }
        Check.finish("ModelTest");
    }

    private int upTo(int n) {
        return random.nextInt(n);
    }

    /** Sees to it that the object has so many calls left. */
    private void room(int calls) {
        if (left < calls) {
            vale = new EchoVale();
            for (Consumer<EchoVale> done : acts) {
                done.accept(vale);
            }
            // The VALLEY's text takes at most 48 calls.
            left = 512 - 48 - acts.size();
        }
        left -= calls;
        due("enough calls are left", left >= 0 ? 1 : 0, 1);
    }

    /** What is done now, and again for each object that is made anew. */
    private long done(ToLongFunction<EchoVale> one) {
        room(1);
        acts.add(one::applyAsLong);
        return one.applyAsLong(vale);
    }

    private void due(String what, long got, long want) {
        Check.due(run + what, got, want);
    }

    private PlainModel newModel(int mostSide) {
        PlainModel m = new PlainModel();
        m.w = 2 + upTo(mostSide - 1);
        m.h = 2 + upTo(mostSide - 1);
        List<String> names = new ArrayList<>(List.of(NAMES));
        List<Integer> cells = new ArrayList<>();
        for (int i = upTo(7); i > 0; i--) {
            PlainModel.Cliff c = new PlainModel.Cliff();
            c.name = names.remove(upTo(names.size()));
            c.x = upTo(m.w);
            c.y = upTo(m.h);
            c.delay = random.nextBoolean() ? 1 + upTo(4) : 1 + upTo(40);
            c.strength = 1 + upTo(9);
            if (!cells.contains(c.y * 10 + c.x)) {
                cells.add(c.y * 10 + c.x);
                m.cliffs.add(c);
            }
        }
        for (int i = 1 + upTo(6); i > 0; i--) {
            PlainModel.Person p = new PlainModel.Person();
            p.name = names.remove(upTo(names.size()));
            p.x = upTo(m.w);
            p.y = upTo(m.h);
            p.camps = upTo(3) > 0;
            p.campX = upTo(m.w);
            p.campY = upTo(m.h);
            m.persons.add(p);
        }
        for (int i = upTo(8); i > 0; i--) {
            int[] move = {upTo(m.persons.size()), 1 + upTo(60), upTo(m.w), upTo(m.h)};
            if (m.moves.stream().noneMatch(o -> o[0] == move[0] && o[1] == move[1])) {
                m.moves.add(move);
            }
        }
        for (int i = upTo(6); i > 0; i--) {
            m.felts.add(upTo(m.h) * 10 + upTo(m.w));
        }
        for (int i = upTo(4); i > 0; i--) {
            m.snows.put(upTo(80), upTo(10));
        }
        return m;
    }

    private void go() {
        model = newModel(upTo(2) == 0 ? 10 : 5);
        String text = model.text();
        due("valley", done(v -> Check.valley(v, text)), model.lines());
        PlainModel kept = null;
        for (int i = 0; i < 30; i++) {
            act();
            if (upTo(12) == 0) {
                due("image", done(v -> v.image(1) ? 1 : 0), 1);
                kept = model.copy();
            } else if (upTo(12) == 0) {
                due("restore", done(v -> v.restore(1) ? 1 : 0), kept == null ? 0 : 1);
                if (kept != null) {
                    model = kept.copy();
                    undone.clear();
                }
            }
            compareState();
            ask();
        }
    }

    private void keep() {
        undone.addLast(model.copy());
        if (undone.size() > 8) {
            undone.removeFirst();
        }
    }

    private void act() {
        int p = upTo(model.persons.size());
        switch (upTo(9)) {
            case 0:
                keep();
                int at = upTo(model.h) * 10 + upTo(model.w);
                due("goes", done(v -> v.goes(p, at) ? 1 : 0), 1);
                model.persons.get(p).x = at % 10;
                model.persons.get(p).y = at / 10;
                return;
            case 1:
                int hours = 1 + upTo(20);
                if (model.hour < 400) {
                    keep();
                }
                due("on", done(v -> v.on(hours)), model.on(hours));
                return;
            case 2:
                due("undo", done(EchoVale::undo), undone.isEmpty() ? NONE : undone.size() - 1);
                if (!undone.isEmpty()) {
                    model = undone.removeLast();
                }
                return;
            case 3:
                int n = 1 + upTo(12);
                int seed = random.nextInt();
                if (model.hour < 400) {
                    keep();
                }
                due("drawn", done(v -> v.drawn(n, seed)), model.drawn(n, seed));
                room(2);
                due("storms", vale.storms(0), model.storms);
                due("sayings drawn", vale.storms(1), model.drawnSayings);
                return;
            default:
                speak(p);
        }
    }

    private void speak(int p) {
        int worth = 1 + upTo(99);
        int loud = 1 + upTo(9);
        if (model.says.size() == 30) {
            due("says of 31", done(v -> v.says(p, worth, loud)), NONE);
            return;
        }
        keep();
        due("says", done(v -> v.says(p, worth, loud)), model.say(p, worth, loud));
    }

    private void compareState() {
        room(50);
        due("hour", vale.count(4), model.hour);
        due("sayings", vale.count(5), model.says.size());
        due("echoes", vale.count(6), model.echoes.size());
        due("snow", vale.count(7), model.snow(model.hour));
        for (int p = 0; p < model.persons.size(); p++) {
            PlainModel.Person person = model.persons.get(p);
            due("place", vale.person(p, 0), person.y * 10 + person.x);
            due("has", vale.person(p, 1), model.has(p));
            due("camp of", vale.person(p, 5), person.camps ? person.campY * 10 + person.campX : NONE);
            int owns = 0;
            int said = 0;
            int heard = 0;
            for (PlainModel.Say s : model.says) {
                owns += s.owners.contains(p) ? 1 : 0;
                said += s.by == p ? 1 : 0;
                heard += s.heard.contains(p) ? 1 : 0;
            }
            due("owns", vale.person(p, 2), owns);
            due("said by", vale.person(p, 3), said);
            due("heard by", vale.person(p, 4), heard);
        }
        for (int s = 0; s < model.says.size(); s++) {
            compareSaying(s);
        }
        for (int k = 0; k < model.echoes.size(); k++) {
            PlainModel.Echo e = model.echoes.get(k);
            int[] wanted = {e.say, e.cliff, e.hour, e.force, PlainModel.bits(e.heard), NONE};
            room(6);
            for (int what = 0; what < 6; what++) {
                due("sounded " + k + " " + what, vale.sounded(k, what), wanted[what]);
            }
        }
        room(10);
        due("sounded behind", vale.sounded(model.echoes.size(), 0), NONE);
        for (int c = 0; c < model.cliffs.size(); c++) {
            PlainModel.Cliff cliff = model.cliffs.get(c);
            due("cliff now", vale.cliff(c, 3), Math.max(0, cliff.strength - model.snow(model.hour)));
        }
    }

    private void compareSaying(int s) {
        room(26);
        PlainModel.Say say = model.says.get(s);
        int[] wanted = {say.worth, say.by, say.hour, say.y * 10 + say.x, say.loud, PlainModel.bits(say.owners),
            say.times, PlainModel.bits(say.heard)};
        for (int what = 0; what < 8; what++) {
            due("saying " + s + " " + what, vale.saying(s, what), wanted[what]);
        }
        for (int c = 0; c < model.cliffs.size(); c++) {
            int[] comes = model.comes(s, c);
            due("comes when", vale.comes(s, c, 0), comes == null ? NONE : comes[0]);
            due("comes what", vale.comes(s, c, 1), comes == null ? NONE : comes[1]);
        }
        for (int p = 0; p < model.persons.size(); p++) {
            due("share", vale.share(p, s), model.share(p, s));
        }
    }

    private void ask() {
        room(150);
        int p = upTo(model.persons.size());
        int q = upTo(model.persons.size());
        int n = 1 + upTo(60);
        int loud = 1 + upTo(9);
        int cell = upTo(model.h) * 10 + upTo(model.w);
        switch (upTo(12)) {
            case 0:
                askCamp(p, n);
                break;
            case 1:
                askCamps(p, 1 + upTo(20));
                break;
            case 2:
                askTells(p, q, loud, n);
                break;
            case 3:
                due("secret", vale.secret(p, n), model.says.size() == 30 ? NONE : model.secret(p, n));
                break;
            case 4:
                askNext(p, n);
                break;
            case 5:
                askMeets(p, q, n);
                break;
            case 6:
                askNear(cell, loud);
                break;
            case 7:
                askOdds(p);
                break;
            case 8:
                askMost();
                break;
            case 9:
                askWrite();
                break;
            case 10:
                askClaims();
                break;
            default:
                askSentence();
        }
    }

    private void askCamp(int p, int n) {
        int best = NONE;
        int most = NONE;
        for (int y = 0; y < model.h; y++) {
            for (int x = 0; x < model.w; x++) {
                int got = model.camping(p, x, y, n);
                if (got > most) {
                    most = got;
                    best = y * 10 + x;
                }
            }
        }
        due("camp", vale.camp(p, n), best);
        due("camping", vale.camping(p, best, n), most);
    }

    private void askCamps(int p, int n) {
        List<Integer> rests = model.rests(n);
        due("rests", vale.rests(n, NONE), rests.size());
        for (int k = 0; k < rests.size(); k++) {
            due("rest " + k, vale.rests(n, k), rests.get(k));
            due("has at rest", vale.has(p, rests.get(k), n), model.byCamps(rests.get(k), n).has(p));
        }
        due("rests behind", vale.rests(n, rests.size()), NONE);
        int camps = upTo(64);
        boolean some = camps >> model.persons.size() != 0;
        for (int i = 0; i < model.persons.size(); i++) {
            some |= !model.persons.get(i).camps && (camps >> i & 1) == 1;
        }
        due("has", vale.has(p, camps, n), some ? NONE : model.byCamps(camps, n).has(p));
    }

    private void askTells(int p, int q, int loud, int n) {
        if (p == q || model.says.size() == 30) {
            due("tells", vale.tells(p, q, loud, n, NONE), NONE);
            return;
        }
        int found = 0;
        for (int cell = 0; cell < 100; cell++) {
            if (cell % 10 < model.w && cell / 10 < model.h
                && PlainModel.bits(model.said(p, cell % 10, cell / 10, loud, n).owners) == 1 << q) {
                due("tells " + found, vale.tells(p, q, loud, n, found), cell);
                found++;
            }
        }
        due("tells", vale.tells(p, q, loud, n, NONE), found);
        due("tells behind", vale.tells(p, q, loud, n, found), NONE);
    }

    private void askNext(int p, int n) {
        PlainModel later = model.later(n);
        due("next", vale.next(n), later.echoes.size() == model.echoes.size() ? NONE
            : later.echoes.get(model.echoes.size()).hour);
        for (int s = 0; s < model.says.size(); s++) {
            due("heirs", vale.heirs(s, n), PlainModel.bits(later.says.get(s).owners));
            int when = NONE;
            for (int k = later.echoes.size() - 1; k >= model.echoes.size(); k--) {
                PlainModel.Echo e = later.echoes.get(k);
                when = e.say == s && e.heard.contains(p) ? e.hour : when;
            }
            due("when", vale.when(p, s, n), when);
        }
    }

    private void askMeets(int p, int q, int n) {
        PlainModel m = model.copy();
        int met = 0;
        for (int i = 0; i < n && m.hour < 400; i++) {
            m.on(1);
            PlainModel.Person a = m.persons.get(p);
            PlainModel.Person b = m.persons.get(q);
            met += a.x == b.x && a.y == b.y ? 1 : 0;
        }
        due("meets", vale.meets(p, q, n), met);
        due("meets itself", vale.meets(p, p, n), Math.min(n, 400 - model.hour));
    }

    private void askNear(int cell, int loud) {
        int bits = 0;
        for (int c = 0; c < model.cliffs.size(); c++) {
            PlainModel.Cliff cliff = model.cliffs.get(c);
            int what = model.direct(cliff, cell % 10, cell / 10, model.real(cell, loud));
            bits |= what > 0 ? 1 << c : 0;
            due("hears", vale.hears(c, loud), PlainModel.bits(model.hearers(c, loud)));
        }
        due("reach", vale.reach(cell, loud), bits);
        due("nearest", vale.nearest(cell, loud), nearest(cell, loud));
        due("nearest, louder", vale.nearest(cell, loud + 9), nearest(cell, loud + 9));
    }

    private int nearest(int cell, int loud) {
        int best = NONE;
        int most = 0;
        for (int c = 0; c < model.cliffs.size(); c++) {
            PlainModel.Cliff cliff = model.cliffs.get(c);
            int what = Math.min(model.direct(cliff, cell % 10, cell / 10, model.real(cell, loud)), cliff.strength);
            if (what > most) {
                most = what;
                best = c;
            }
        }
        return best;
    }

    private void askOdds(int p) {
        int n = 1 + upTo(5);
        int seed = upTo(4) == 0 ? Integer.MAX_VALUE : random.nextInt();
        int more = 0;
        for (int i = 0; i < n; i++) {
            PlainModel m = model.copy();
            m.drawn(40, seed + i);
            more += m.has(p) > model.has(p) ? 1 : 0;
        }
        due("odds", vale.odds(p, n, seed), more);
    }

    private void askMost() {
        int least = 0;
        int most = 0;
        for (int p = 1; p < model.persons.size(); p++) {
            least = model.has(p) < model.has(least) ? p : least;
            most = model.has(p) > model.has(most) ? p : most;
        }
        due("poorest", vale.poorest(0), least);
        due("richest", vale.poorest(1), most);
    }

    private void askWrite() {
        for (int s = 0; s < model.says.size(); s++) {
            StringBuilder text = new StringBuilder();
            for (PlainModel.Echo e : model.echoes) {
                if (e.say == s) {
                    text.append(model.cliffs.get(e.cliff).name).append(' ').append(e.hour).append(' ')
                        .append(e.force).append(';');
                }
            }
            room(90);
            due("write", vale.write(s), text.length());
            Check.due(run + "written", Check.written(vale), text.toString());
        }
    }

    private void askClaims() {
        StringBuilder text = new StringBuilder();
        int wrong = NONE;
        for (int line = 0; line < 4; line++) {
            int p = upTo(model.persons.size());
            int s = Math.min(29, upTo(model.says.size() + 1));
            int verb = upTo(3);
            boolean so = s < model.says.size();
            if (so) {
                PlainModel.Say say = model.says.get(s);
                so = verb == 0 ? say.owners.contains(p) : verb == 1 ? say.by == p : say.heard.contains(p);
            }
            wrong = wrong == NONE && !so ? line : wrong;
            text.append(verb == 0 ? "owns " : verb == 1 ? "said " : "heard ").append(model.persons.get(p).name)
                .append(' ').append(s).append(";\n");
        }
        due("claims " + text, Check.claims(vale, text.toString()), wrong);
    }

    private int ones;

    // Writes a part of a SENTENCE, and tells of which SAYINGS it is so, as bits.
    private int part(StringBuilder text, int depth) {
        ones++;
        int kind = depth < 5 ? upTo(10) : 4 + upTo(6);
        int all = (1 << model.says.size()) - 1;
        if (kind < 2) {
            text.append("not ");
            return all & ~part(text, depth + 1);
        }
        if (kind < 4) {
            text.append('(');
            int bits = joined(text, depth + 1);
            text.append(')');
            return bits;
        }
        int p = upTo(model.persons.size());
        int number = upTo(upTo(2) == 0 ? 100 : 8);
        char sign = "<=>".charAt(upTo(3));
        int plain = upTo(8);
        String[] words = {"lost ", "joint ", "of ", "by ", "worth", "loud ", "hour", "echoes"};
        text.append(words[plain]);
        if (plain == 2 || plain == 3) {
            text.append(model.persons.get(p).name).append(' ');
        } else if (plain > 3) {
            text.append(sign).append(number).append(' ');
        }
        int bits = 0;
        for (int s = 0; s < model.says.size(); s++) {
            PlainModel.Say say = model.says.get(s);
            boolean[] so = {model.lost(s), say.owners.size() > 1, say.owners.contains(p), say.by == p,
                compare(say.worth, sign, number), compare(say.loud, sign, number), compare(say.hour, sign, number),
                compare(say.times, sign, number)};
            bits |= so[plain] ? 1 << s : 0;
        }
        return bits;
    }

    private static boolean compare(int a, char sign, int b) {
        return sign == '<' ? a < b : sign == '>' ? a > b : a == b;
    }

    private int joined(StringBuilder text, int depth) {
        int any = 0;
        int ors = upTo(3);
        for (int i = 0; i <= ors; i++) {
            text.append(i > 0 ? " or " : "");
            int each = NONE;
            int ands = upTo(3);
            for (int k = 0; k <= ands; k++) {
                text.append(k > 0 ? " and " : "");
                each &= part(text, depth);
            }
            any |= each;
        }
        return any;
    }

    private void askSentence() {
        for (int tries = 0; tries < 50; tries++) {
            ones = 0;
            StringBuilder text = new StringBuilder();
            int bits = joined(text, 1);
            if (ones <= 20 && text.length() <= 200) {
                due("sentence " + text, Check.sentence(vale, text.toString()), ones);
                int found = 0;
                for (int s = 0; s < model.says.size(); s++) {
                    if ((bits >> s & 1) == 1) {
                        due("said " + found + " by " + text, vale.said(found), s);
                        found++;
                    }
                }
                due("said by " + text, vale.said(NONE), found);
                due("said behind", vale.said(found), NONE);
                return;
            }
        }
    }

    private void goPieces() {
        model = newModel(4);
        room(300);
        if (model.cliffs.isEmpty()) {
            return;
        }
        due("valley", Check.valley(vale, model.text()), model.lines());
        PlainModel m = new PlainModel();
        m.cliffs = model.cliffs;
        m.snows = model.snows;
        m.hour = upTo(90);
        m.sayFrom(0, 1, upTo(model.w), upTo(model.h), 3 + upTo(7));
        m.on(100);
        int many = Math.min(m.echoes.size(), 1 + upTo(3));
        int[] told = new int[3 * Math.max(1, many)];
        told[1] = 30;
        told[2] = 2;
        for (int i = 0; i < many; i++) {
            PlainModel.Echo e = m.echoes.get(i);
            told[3 * i] = e.cliff;
            told[3 * i + 1] = e.hour;
            told[3 * i + 2] = e.force;
        }
        List<Integer> ways = model.ways(told);
        due("pieces", Check.pieces(vale, told), ways.size());
        for (int k = 0; k < 60; k++) {
            due("piece " + k, vale.piece(k), k < 50 && k < ways.size() ? ways.get(k) : NONE);
        }
    }
}
