import java.util.ArrayList;
import java.util.List;
import java.util.TreeMap;
import java.util.TreeSet;

/** The valley gone through in the plainest way: each HOUR, each SAYING, each CLIFF, all that ever arrives. */
final class PlainModel {
    static final class Cliff {
        String name;
        int x;
        int y;
        int delay;
        int strength;
    }

    static final class Person {
        String name;
        int x;
        int y;
        boolean camps;
        int campX;
        int campY;
    }

    static final class Say {
        int worth;
        int by;
        int hour;
        int x;
        int y;
        int loud;
        int times;
        TreeSet<Integer> owners = new TreeSet<>();
        TreeSet<Integer> heard = new TreeSet<>();
        // By CLIFF: HOUR by HOUR, the greatest that arrives.
        List<TreeMap<Integer, Integer>> arrivals = new ArrayList<>();
        boolean[] given = new boolean[6];
    }

    static final class Echo {
        int say;
        int cliff;
        int hour;
        int force;
        TreeSet<Integer> heard;
    }

    int w;
    int h;
    int hour;
    int storms;
    int drawnSayings;
    List<Cliff> cliffs = new ArrayList<>();
    List<Person> persons = new ArrayList<>();
    // Person, HOUR, X, Y.
    List<int[]> moves = new ArrayList<>();
    TreeSet<Integer> felts = new TreeSet<>();
    TreeMap<Integer, Integer> snows = new TreeMap<>();
    List<Say> says = new ArrayList<>();
    List<Echo> echoes = new ArrayList<>();

    PlainModel copy() {
        PlainModel m = new PlainModel();
        m.w = w;
        m.h = h;
        m.hour = hour;
        m.cliffs = cliffs;
        m.moves = moves;
        m.felts = felts;
        m.snows = snows;
        m.echoes = new ArrayList<>(echoes);
        for (Person p : persons) {
            Person q = new Person();
            q.name = p.name;
            q.x = p.x;
            q.y = p.y;
            q.camps = p.camps;
            q.campX = p.campX;
            q.campY = p.campY;
            m.persons.add(q);
        }
        for (Say s : says) {
            m.says.add(copyOf(s));
        }
        return m;
    }

    private static Say copyOf(Say s) {
        Say t = new Say();
        t.worth = s.worth;
        t.by = s.by;
        t.hour = s.hour;
        t.x = s.x;
        t.y = s.y;
        t.loud = s.loud;
        t.times = s.times;
        t.owners = new TreeSet<>(s.owners);
        t.heard = new TreeSet<>(s.heard);
        for (TreeMap<Integer, Integer> one : s.arrivals) {
            t.arrivals.add(new TreeMap<>(one));
        }
        t.given = s.given.clone();
        return t;
    }

    String text() {
        StringBuilder t = new StringBuilder("land " + w + " " + h + ";\n");
        for (Cliff c : cliffs) {
            t.append("cliff ").append(c.name).append(' ').append(c.x).append(' ').append(c.y).append(' ')
                .append(c.delay).append(' ').append(c.strength).append(";");
        }
        for (Person p : persons) {
            t.append("person ").append(p.name).append(' ').append(p.x).append(' ').append(p.y).append(';');
        }
        for (Person p : persons) {
            if (p.camps) {
                t.append("camp ").append(p.name).append(' ').append(p.campX).append(' ').append(p.campY).append(';');
            }
        }
        for (int[] m : moves) {
            t.append("move ").append(persons.get(m[0]).name).append(' ').append(m[1]).append(' ').append(m[2])
                .append(' ').append(m[3]).append(';');
        }
        for (int f : felts) {
            t.append("felt ").append(f % 10).append(' ').append(f / 10).append(';');
        }
        for (int s : snows.descendingKeySet()) {
            t.append("snow ").append(s).append(' ').append(snows.get(s)).append(';');
        }
        return t.toString();
    }

    int lines() {
        int camps = 0;
        for (Person p : persons) {
            camps += p.camps ? 1 : 0;
        }
        return 1 + cliffs.size() + persons.size() + camps + moves.size() + felts.size() + snows.size();
    }

    int snow(int at) {
        return snows.floorEntry(at) == null ? 0 : snows.floorEntry(at).getValue();
    }

    static int far(int x, int y, int u, int v) {
        return Math.abs(x - u) + Math.abs(y - v);
    }

    int real(int cell, int loud) {
        return felts.contains(cell) ? Math.max(0, loud - 2) : loud;
    }

    /** What comes to a CLIFF of what is said on a CELL with a LOUD that felt was taken from. */
    int direct(Cliff c, int x, int y, int loud) {
        int far = far(c.x, c.y, x, y);
        return loud < 1 || far > loud ? 0 : loud - far / 2;
    }

    int say(int p, int worth, int loud) {
        Person who = persons.get(p);
        return sayFrom(p, worth, who.x, who.y, real(who.y * 10 + who.x, loud));
    }

    int sayFrom(int p, int worth, int x, int y, int loud) {
        Say s = new Say();
        s.worth = worth;
        s.by = p;
        s.hour = hour;
        s.x = x;
        s.y = y;
        s.loud = loud;
        s.owners.add(p);
        for (Cliff c : cliffs) {
            s.arrivals.add(new TreeMap<>());
            int what = direct(c, x, y, loud);
            if (what > 0) {
                s.arrivals.get(s.arrivals.size() - 1).put(hour + c.delay, what);
            }
        }
        says.add(s);
        return says.size() - 1;
    }

    void pass(int storm) {
        hour++;
        for (int[] m : moves) {
            if (m[1] == hour) {
                persons.get(m[0]).x = m[2];
                persons.get(m[0]).y = m[3];
            }
        }
        for (int s = 0; s < says.size(); s++) {
            for (int c = 0; c < cliffs.size(); c++) {
                Say say = says.get(s);
                if (!say.given[c] && say.arrivals.get(c).containsKey(hour)) {
                    say.given[c] = true;
                    int most = cliffs.get(c).strength - snow(hour) - storm;
                    sound(s, c, Math.min(say.arrivals.get(c).get(hour), most));
                }
            }
        }
    }

    private void sound(int s, int c, int force) {
        if (force < 1) {
            return;
        }
        Say say = says.get(s);
        Cliff cliff = cliffs.get(c);
        Echo e = new Echo();
        e.say = s;
        e.cliff = c;
        e.hour = hour;
        e.force = force;
        e.heard = hearers(c, force);
        echoes.add(e);
        say.times++;
        say.heard.addAll(e.heard);
        if (!e.heard.isEmpty()) {
            say.owners = new TreeSet<>(e.heard);
        }
        for (int d = 0; d < cliffs.size(); d++) {
            Cliff other = cliffs.get(d);
            int far = far(cliff.x, cliff.y, other.x, other.y);
            int what = force - 1 - far / 2;
            if (d != c && far <= force && what >= 1) {
                say.arrivals.get(d).merge(hour + other.delay, what, Math::max);
            }
        }
    }

    TreeSet<Integer> hearers(int c, int force) {
        TreeSet<Integer> all = new TreeSet<>();
        for (int p = 0; p < persons.size(); p++) {
            if (far(cliffs.get(c).x, cliffs.get(c).y, persons.get(p).x, persons.get(p).y) <= force) {
                all.add(p);
            }
        }
        return all;
    }

    int on(int n) {
        int did = 0;
        while (did < n && hour < 400) {
            pass(0);
            did++;
        }
        return did;
    }

    PlainModel later(int n) {
        PlainModel m = copy();
        m.on(n);
        return m;
    }

    int share(int p, int s) {
        int left = says.get(s).worth;
        List<Integer> owners = new ArrayList<>(says.get(s).owners);
        int[] parts = new int[6];
        for (int i = 0; left > 0; i++) {
            parts[owners.get(i % owners.size())]++;
            left--;
        }
        return parts[p];
    }

    int has(int p) {
        int all = 0;
        for (int s = 0; s < says.size(); s++) {
            all += share(p, s);
        }
        return all;
    }

    static int bits(TreeSet<Integer> all) {
        int bits = 0;
        for (int p : all) {
            bits |= 1 << p;
        }
        return bits;
    }

    /** When a CLIFF gives a SAYING back, or did; then what comes; null if it does not. */
    int[] comes(int s, int c) {
        TreeMap<Integer, Integer> all = says.get(s).arrivals.get(c);
        return all.isEmpty() ? null : new int[] {all.firstKey(), all.firstEntry().getValue()};
    }

    boolean lost(int s) {
        Say say = says.get(s);
        boolean pending = false;
        for (int c = 0; c < cliffs.size(); c++) {
            pending |= !say.given[c] && !say.arrivals.get(c).isEmpty();
        }
        return say.times == 0 && !pending;
    }

    int camping(int p, int x, int y, int n) {
        PlainModel m = copy();
        m.persons.get(p).x = x;
        m.persons.get(p).y = y;
        m.on(n);
        return m.has(p);
    }

    PlainModel byCamps(int camps, int n) {
        PlainModel m = copy();
        for (int p = 0; p < persons.size(); p++) {
            if ((camps >> p & 1) == 1) {
                m.persons.get(p).x = m.persons.get(p).campX;
                m.persons.get(p).y = m.persons.get(p).campY;
            }
        }
        m.on(n);
        return m;
    }

    List<Integer> rests(int n) {
        List<Integer> all = new ArrayList<>();
        for (int camps = 0; camps < 1 << persons.size(); camps++) {
            boolean fits = true;
            for (int p = 0; p < persons.size(); p++) {
                fits &= persons.get(p).camps || (camps >> p & 1) == 0;
            }
            for (int p = 0; p < persons.size() && fits; p++) {
                if (persons.get(p).camps) {
                    fits = byCamps(camps ^ 1 << p, n).has(p) <= byCamps(camps, n).has(p);
                }
            }
            if (fits) {
                all.add(camps);
            }
        }
        return all;
    }

    /** The new SAYING, so many HOURS after a PERSON went to a CELL and said it. */
    Say said(int p, int x, int y, int loud, int n) {
        PlainModel m = copy();
        m.persons.get(p).x = x;
        m.persons.get(p).y = y;
        int s = m.say(p, 1, loud);
        m.on(n);
        return m.says.get(s);
    }

    int secret(int p, int n) {
        int most = 0;
        for (int loud = 1; loud <= 9; loud++) {
            if (said(p, persons.get(p).x, persons.get(p).y, loud, n).heard.isEmpty()) {
                most = loud;
            }
        }
        return most;
    }

    int draw(int[] seed, int n) {
        seed[0] = seed[0] * 1103515245 + 12345;
        return (seed[0] >>> 8) % n;
    }

    int drawn(int n, int firstSeed) {
        int[] seed = {firstSeed};
        storms = 0;
        drawnSayings = 0;
        int did = 0;
        while (did < n && hour < 400) {
            int storm = 0;
            if (draw(seed, 4) == 0) {
                storm = draw(seed, 5);
                storms++;
            }
            pass(storm);
            did++;
            if (draw(seed, 3) == 0) {
                int p = draw(seed, persons.size());
                int worth = 1 + draw(seed, 99);
                int loud = 1 + draw(seed, 9);
                if (says.size() < 30) {
                    say(p, worth, loud);
                    drawnSayings++;
                }
            }
        }
        return did;
    }

    /** All ways in which one SAYING SOUNDS as all of these told: CLIFF, HOUR, FORCE each. */
    List<Integer> ways(int[] told) {
        List<Integer> all = new ArrayList<>();
        for (int then = 0; then <= 200; then++) {
            for (int cell = 0; cell < 100; cell++) {
                for (int loud = 1; loud <= 9 && cell % 10 < w && cell / 10 < h; loud++) {
                    PlainModel m = new PlainModel();
                    m.cliffs = cliffs;
                    m.snows = snows;
                    m.hour = then;
                    m.sayFrom(0, 1, cell % 10, cell / 10, loud);
                    for (int i = 0; i < 256 && m.hour < 256; i++) {
                        m.pass(0);
                    }
                    if (m.sounded(told)) {
                        all.add(then * 1000 + cell * 10 + loud);
                    }
                }
            }
        }
        return all;
    }

    private boolean sounded(int[] told) {
        for (int i = 0; i < told.length; i += 3) {
            boolean found = false;
            for (Echo e : echoes) {
                found |= e.cliff == told[i] && e.hour == told[i + 1] && e.force == told[i + 2];
            }
            if (!found) {
                return false;
            }
        }
        return true;
    }
}
