import java.util.ArrayDeque;
import java.util.ArrayList;
import java.util.Deque;
import java.util.HashMap;
import java.util.List;
import java.util.Map;
import java.util.NoSuchElementException;
import java.util.TreeSet;

/**
 * The document again, in its plainest form: every question is answered by going through all the days.
 * Written apart from the class, so that RandomRunTests can hold the one against the other.
 */
final class PlainModel {
    static final int NONE = -1;
    static final int HIDDEN = -1000000;

    static final class Wrong extends Exception {
        final int at;

        Wrong(int at) {
            super(null, null, false, false);
            this.at = at;
        }
    }

    static final class Kind {
        int v = 3;
        int n = 4;
    }

    static final class Person {
        int h = 0;
        int o = 2;
        int b = 0;
    }

    static final class Told {
        int d = 8;
        int t = 20;
        int f = 0;
        List<Kind> kinds = new ArrayList<>();
        List<Person> persons = new ArrayList<>();
    }

    interface Sum {
        int of(Map<Character, Integer> letters);
    }

    interface Truth {
        boolean of(Map<Character, Integer> letters);
    }

    static final class Clause {
        Truth when;
        Sum then;
    }

    static final class Written {
        int light;
        int[] did;
    }

    static final class Year {
        int ruler;
        int light;
        int governor;
    }

    static final class World {
        int[] habit;
        int[] purse;
        boolean[] inBed;
        int fog;
        boolean eclipse;
        int candles;
        int treasury;
        int[] voices;
        int governor = NONE;
        int year = 0;
        List<Written> days = new ArrayList<>();
        List<Year> log = new ArrayList<>();

        World copy() {
            World w = new World();
            w.habit = habit.clone();
            w.purse = purse.clone();
            w.inBed = inBed.clone();
            w.fog = fog;
            w.eclipse = eclipse;
            w.candles = candles;
            w.treasury = treasury;
            w.voices = voices.clone();
            w.governor = governor;
            w.year = year;
            w.days = new ArrayList<>(days);
            w.log = new ArrayList<>(log);
            return w;
        }
    }

    record Seen(int n, int v, boolean more) { }

    List<Integer> tape = new ArrayList<>();
    Told told = null;
    List<List<Clause>> laws = new ArrayList<>();
    List<List<int[]>> calendars = new ArrayList<>();
    int lawHolds = NONE;
    int whim = 2;
    int[] status = new int[5];
    World now = null;
    World picture = null;
    Deque<World> past = new ArrayDeque<>();
    List<Seen> seen = new ArrayList<>();

    // ---- reading

    int at;

    int sign() {
        while (at < tape.size() && tape.get(at) == ' ') {
            at++;
        }
        return at < tape.size() ? tape.get(at) : 0;
    }

    boolean digitAt(int i) {
        return i < tape.size() && tape.get(i) >= '0' && tape.get(i) <= '9';
    }

    int number(int digits, int least, int most) throws Wrong {
        sign();
        int start = at;
        if (!digitAt(at)) {
            throw new Wrong(at);
        }
        int value = 0;
        while (digitAt(at)) {
            if (at - start == digits) {
                throw new Wrong(at);
            }
            value = 10 * value + tape.get(at++) - '0';
        }
        if (value < least || value > most) {
            throw new Wrong(at - 1);
        }
        return value;
    }

    void need(char c) throws Wrong {
        if (sign() != c) {
            throw new Wrong(at);
        }
        at++;
    }

    Told seaport() throws Wrong {
        at = 0;
        Told s = new Told();
        boolean rules = false;
        do {
            int c = sign();
            if (c == 's' && !rules) {
                rules = true;
                at++;
                Map<Character, Integer> items = items("dtf");
                s.d = items.getOrDefault('d', 8);
                s.t = items.getOrDefault('t', 20);
                s.f = items.getOrDefault('f', 0);
            } else if (c == 'k' && s.kinds.size() < 6) {
                at++;
                Map<Character, Integer> items = items("vn");
                Kind k = new Kind();
                k.v = items.getOrDefault('v', 3);
                k.n = items.getOrDefault('n', 4);
                s.kinds.add(k);
            } else if (c == 'p' && s.persons.size() < 6) {
                at++;
                Map<Character, Integer> items = items("hob");
                Person p = new Person();
                p.h = items.getOrDefault('h', 0);
                p.o = items.getOrDefault('o', 2);
                p.b = items.getOrDefault('b', 0);
                s.persons.add(p);
            } else {
                throw new Wrong(at);
            }
        } while (another());
        if (s.kinds.isEmpty() || s.persons.size() < 2) {
            throw new Wrong(tape.size());
        }
        for (Person p : s.persons) {
            if (p.h >= s.kinds.size()) {
                throw new Wrong(tape.size());
            }
        }
        return s;
    }

    boolean another() throws Wrong {
        if (sign() == 0) {
            return false;
        }
        need(';');
        return true;
    }

    Map<Character, Integer> items(String letters) throws Wrong {
        Map<Character, Integer> found = new HashMap<>();
        while (sign() != 0 && letters.indexOf(sign()) >= 0) {
            char c = (char) sign();
            if (found.containsKey(c)) {
                throw new Wrong(at);
            }
            at++;
            int least = c == 'd' ? 2 : 0;
            int most = switch (c) {
                case 'd', 'n' -> 30;
                case 't' -> 99;
                case 'h' -> 5;
                case 'b' -> 1;
                default -> 9;
            };
            found.put(c, number(2, least, most));
        }
        return found;
    }

    List<int[]> calendar() throws Wrong {
        at = 0;
        List<int[]> steps = new ArrayList<>();
        while (true) {
            int c = sign();
            int sort = c == 0 ? -1 : "dhbfec".indexOf(c);
            if (sort < 0) {
                throw new Wrong(at);
            }
            at++;
            int[] step = {sort, NONE, NONE};
            int digits = sort == 1 ? 2 : sort == 0 || sort == 4 ? 0 : 1;
            for (int i = 1; i <= digits; i++) {
                sign();
                if (!digitAt(at)) {
                    throw new Wrong(at);
                }
                step[i] = tape.get(at++) - '0';
            }
            steps.add(step);
            if (sign() == 0) {
                return steps;
            }
            if (sign() != ';' || steps.size() == 20) {
                throw new Wrong(at);
            }
            at++;
        }
    }

    List<Clause> lawText() throws Wrong {
        at = 0;
        List<Clause> clauses = new ArrayList<>();
        do {
            need('y');
            need(':');
            Clause clause = new Clause();
            int c = sign();
            if (c == '!' || c == '(') {
                clause.when = condition(0, null);
                need('?');
                clause.then = sum(0);
            } else {
                Sum first = sum(0);
                c = sign();
                if (c == '=' || c == '<' || c == '>') {
                    clause.when = condition(0, first);
                    need('?');
                    clause.then = sum(0);
                } else {
                    clause.then = first;
                }
            }
            clauses.add(clause);
        } while (another());
        return clauses;
    }

    /** A condition, whose first sum may have been read already. */
    Truth condition(int depth, Sum first) throws Wrong {
        Truth all = truth(depth, first);
        while (sign() == '|') {
            at++;
            Truth left = all;
            Truth right = truth(depth, null);
            all = l -> left.of(l) | right.of(l);
        }
        return all;
    }

    Truth truth(int depth, Sum first) throws Wrong {
        Truth all = unit(depth, first);
        while (sign() == '&') {
            at++;
            Truth left = all;
            Truth right = unit(depth, null);
            all = l -> left.of(l) & right.of(l);
        }
        return all;
    }

    Truth unit(int depth, Sum first) throws Wrong {
        int c = sign();
        if (first == null && (c == '!' || c == '(')) {
            if (depth == 6) {
                throw new Wrong(at);
            }
            at++;
            if (c == '!') {
                Truth inner = unit(depth + 1, null);
                return l -> !inner.of(l);
            }
            Truth inner = condition(depth + 1, null);
            need(')');
            return inner;
        }
        Sum left = first == null ? sum(depth) : first;
        int rel = sign();
        if (rel != '=' && rel != '<' && rel != '>') {
            throw new Wrong(at);
        }
        at++;
        Sum right = sum(depth);
        return l -> rel == '=' ? left.of(l) == right.of(l) : rel == '<' ? left.of(l) < right.of(l) : left.of(l) > right.of(l);
    }

    static int held(long x) {
        return (int) (x > 1000000 ? 1000000 : x < -1000000 ? -1000000 : x);
    }

    Sum sum(int depth) throws Wrong {
        Sum all = term(depth);
        while (sign() == '+' || sign() == '-') {
            int c = sign();
            at++;
            Sum left = all;
            Sum right = term(depth);
            all = l -> held(c == '+' ? left.of(l) + right.of(l) : left.of(l) - right.of(l));
        }
        return all;
    }

    Sum term(int depth) throws Wrong {
        Sum all = atom(depth);
        while (sign() == '*' || sign() == '/') {
            int c = sign();
            at++;
            Sum left = all;
            Sum right = atom(depth);
            all = l -> {
                long a = left.of(l);
                long b = right.of(l);
                return c == '*' ? held(a * b) : b == 0 ? 0 : held(a / b);
            };
        }
        return all;
    }

    Sum atom(int depth) throws Wrong {
        int c = sign();
        if (c == '[') {
            if (depth == 6) {
                throw new Wrong(at);
            }
            at++;
            Sum inner = sum(depth + 1);
            need(']');
            return inner;
        }
        if (c != 0 && "idfuyr".indexOf(c) >= 0) {
            at++;
            return l -> l.get((char) c);
        }
        int value = number(4, 0, 9999);
        return l -> value;
    }

    Object read(int sort) throws Wrong {
        return sort == 0 ? seaport() : sort == 1 ? lawText() : calendar();
    }

    // ---- how it goes

    int up(World w) {
        int bits = 0;
        for (int i = 0; i < w.inBed.length; i++) {
            bits |= w.inBed[i] ? 0 : 1 << i;
        }
        return bits;
    }

    int lightAhead(World w, int day, int fog) {
        boolean next = day == w.days.size();
        if (next && w.eclipse) {
            return 0;
        }
        long worth;
        if (lawHolds == NONE) {
            worth = 2 * Math.abs(day - told.d / 2) + 4 - fog;
        } else {
            Map<Character, Integer> letters = new HashMap<>();
            letters.put('i', day);
            letters.put('d', told.d);
            letters.put('f', fog);
            letters.put('u', Integer.bitCount(up(w)));
            letters.put('y', w.year % 100);
            letters.put('r', w.governor == NONE ? 0 : w.voices[w.governor]);
            worth = 0;
            for (Clause c : laws.get(lawHolds)) {
                if (c.when == null || c.when.of(letters)) {
                    worth = c.then.of(letters);
                    break;
                }
            }
        }
        int light = (int) Math.max(0, Math.min(99, worth));
        return next ? Math.min(99, light + 2 * w.candles) : light;
    }

    int lightOf(World w, int day) {
        return day < w.days.size() ? w.days.get(day).light : lightAhead(w, day, w.fog);
    }

    void passDay(World w) {
        Written today = new Written();
        today.light = lightOf(w, w.days.size());
        today.did = new int[told.kinds.size()];
        for (int i = 0; i < w.habit.length; i++) {
            if (w.inBed[i]) {
                continue;
            }
            int k = w.habit[i];
            today.did[k] |= 1 << i;
            if (today.light >= told.kinds.get(k).n) {
                int coins = told.kinds.get(k).v + w.voices[k];
                w.purse[i] = Math.min(9999, w.purse[i] + coins);
                w.treasury = Math.min(999, w.treasury + coins);
            }
        }
        w.days.add(today);
        w.eclipse = false;
        w.candles = 0;
        if (w.days.size() == told.d) {
            endYear(w);
        }
    }

    void endYear(World w) {
        Year year = new Year();
        for (int i = 1; i < told.d; i++) {
            if (w.days.get(i).light < w.days.get(year.ruler).light) {
                year.ruler = i;
            }
        }
        year.light = w.days.get(year.ruler).light;
        year.governor = NONE;
        int most = 0;
        for (int k = 0; k < told.kinds.size(); k++) {
            w.voices[k] = Integer.bitCount(w.days.get(year.ruler).did[k]);
            if (w.voices[k] > most) {
                most = w.voices[k];
                year.governor = k;
            }
        }
        w.governor = year.governor;
        for (int i = 0; i < w.habit.length; i++) {
            if (year.governor != NONE && told.persons.get(i).o <= most) {
                w.habit[i] = year.governor;
            }
        }
        w.log.add(0, year);
        if (w.log.size() > 60) {
            w.log.remove(60);
        }
        w.year++;
        w.days.clear();
    }

    /** Goes on to the next year's end. */
    World yearLater(World w) {
        World later = w.copy();
        int year = w.year;
        while (later.year == year) {
            passDay(later);
        }
        return later;
    }

    boolean lastDay(World w) {
        return w.year == 999 && w.days.size() == told.d - 1;
    }

    World begun() {
        World w = new World();
        int many = told.persons.size();
        w.habit = new int[many];
        w.purse = new int[many];
        w.inBed = new boolean[many];
        for (int i = 0; i < many; i++) {
            w.habit[i] = told.persons.get(i).h;
            w.inBed[i] = told.persons.get(i).b == 1;
        }
        w.voices = new int[told.kinds.size()];
        w.fog = told.f;
        w.treasury = told.t;
        return w;
    }

    /** Why an act can't be, NONE if it can. */
    int whyNot(World w, int act, int a, int b) {
        if (told == null) {
            return 0;
        }
        switch (act) {
            case 0: return lastDay(w) ? 4 : NONE;
            case 1: return !isPerson(a) || !isKind(b) ? 0 : w.habit[a] == b ? 2 : w.treasury < 1 ? 3 : NONE;
            case 2: return isPerson(a) ? NONE : 0;
            case 3: return a < 0 || a > 9 ? 1 : a == w.fog ? 2 : NONE;
            case 4: return w.eclipse ? 2 : w.treasury < 10 ? 3 : NONE;
            case 5: return a < 1 || a > 9 ? 1 : w.treasury < a || w.candles + a > 20 ? 3 : NONE;
            default: return a < 1 || a > 50 ? 1 : w.treasury + a > 999 ? 3 : NONE;
        }
    }

    void doAct(World w, int act, int a, int b) {
        switch (act) {
            case 0 -> passDay(w);
            case 1 -> {
                w.habit[a] = b;
                w.treasury--;
            }
            case 2 -> w.inBed[a] = !w.inBed[a];
            case 3 -> w.fog = a;
            case 4 -> {
                w.eclipse = true;
                w.treasury -= 10;
            }
            case 5 -> {
                w.candles += a;
                w.treasury -= a;
            }
            default -> w.treasury += a;
        }
    }

    void remember() {
        past.addLast(now.copy());
        if (past.size() > 40) {
            past.removeFirst();
        }
    }

    boolean act(int act, int a, int b) {
        int why = whyNot(now, act, a, b);
        if (why != NONE) {
            status[why]++;
            return false;
        }
        remember();
        doAct(now, act, a, b);
        return true;
    }

    boolean isPerson(int p) {
        return told != null && p >= 0 && p < told.persons.size();
    }

    boolean isKind(int k) {
        return told != null && k >= 0 && k < told.kinds.size();
    }

    boolean isDay(int d) {
        return told != null && d >= 0 && d < told.d;
    }

    // ---- the face

    int feed(int a, int b, int c, int d, int e) {
        List<Integer> more = new ArrayList<>();
        for (int n : new int[] {a, b, c, d, e}) {
            for (int shift = 24; shift >= 0; shift -= 8) {
                if ((n >>> shift & 255) != 0) {
                    more.add(n >>> shift & 255);
                }
            }
        }
        if (tape.size() + more.size() > 240) {
            return NONE;
        }
        tape.addAll(more);
        return tape.size();
    }

    boolean end(int n) {
        if (n < 0 || n > tape.size()) {
            return false;
        }
        tape = new ArrayList<>(tape.subList(0, n));
        return true;
    }

    int fault(int sort) {
        if (sort < 0 || sort > 2) {
            return -2;
        }
        try {
            read(sort);
            return NONE;
        } catch (Wrong w) {
            return w.at;
        }
    }

    @SuppressWarnings("unchecked")
    int text(int sort) {
        if (fault(sort) != NONE || sort == 1 && laws.size() == 4 || sort == 2 && calendars.size() == 4) {
            return NONE;
        }
        Object found;
        try {
            found = read(sort);
        } catch (Wrong w) {
            return NONE;
        }
        tape.clear();
        if (sort == 1) {
            laws.add((List<Clause>) found);
            return laws.size() - 1;
        }
        if (sort == 2) {
            calendars.add((List<int[]>) found);
            return calendars.size() - 1;
        }
        told = (Told) found;
        now = begun();
        picture = null;
        past.clear();
        seen.clear();
        return told.persons.size();
    }

    int kind(int kind, int what) {
        if (!isKind(kind) || what < 0 || what > 3) {
            return HIDDEN;
        }
        int party = 0;
        for (int i = 0; i < now.habit.length; i++) {
            party |= now.habit[i] == kind ? 1 << i : 0;
        }
        Kind k = told.kinds.get(kind);
        return new int[] {k.v, k.n, now.voices[kind], party}[what];
    }

    int person(int person, int what) {
        if (!isPerson(person) || what < 0 || what > 3) {
            throw new NoSuchElementException();
        }
        return new int[] {now.habit[person], told.persons.get(person).o, now.inBed[person] ? 1 : 0, now.purse[person]}[what];
    }

    boolean law(int law) {
        if (law < NONE || law >= laws.size()) {
            return false;
        }
        lawHolds = law;
        return true;
    }

    boolean whim(int v) {
        if (v < 0 || v > 9 || v == whim) {
            return false;
        }
        whim = v;
        return true;
    }

    int pass() {
        int light = told == null ? 0 : lightOf(now, now.days.size());
        return act(0, 0, 0) ? light : NONE;
    }

    int habit(int person, int kind) {
        int was = isPerson(person) ? now.habit[person] : 0;
        return act(1, person, kind) ? was : NONE;
    }

    int bed(int person) {
        return act(2, person, 0) ? (now.inBed[person] ? 1 : 0) : NONE;
    }

    int fog(int v) {
        int was = told == null ? 0 : now.fog;
        return act(3, v, 0) ? was : NONE;
    }

    int eclipse() {
        return act(4, 0, 0) ? now.treasury : NONE;
    }

    int candles(int n) {
        return act(5, n, 0) ? now.candles : NONE;
    }

    int give(int n) {
        return act(6, n, 0) ? now.treasury : NONE;
    }

    long x;

    int draw(int j) {
        x = x * 6364136223846793005L + 1442695040888963407L;
        return (int) ((x >>> 33) % j);
    }

    int years(int n, long seed) {
        if (told == null || n < 1 || n > 60) {
            return NONE;
        }
        World trial = now.copy();
        for (int i = 0; i < n; i++) {
            if (lastDay(trial)) {
                return NONE;
            }
            passDay(trial);
        }
        x = seed;
        for (int i = 0; i < n; i++) {
            remember();
            now.fog = draw(10);
            if (draw(10) < whim) {
                int p = draw(told.persons.size());
                now.habit[p] = draw(told.kinds.size());
            }
            if (draw(100) < 3) {
                now.eclipse = true;
            }
            passDay(now);
        }
        return now.days.size();
    }

    int status(int what) {
        return what < 0 || what > 4 ? NONE : status[what];
    }

    int undo() {
        if (past.isEmpty()) {
            return NONE;
        }
        now = past.removeLast();
        return past.size();
    }

    int log(int i, int what) {
        if (told == null || i < 0 || i >= now.log.size() || what < 0 || what > 2) {
            return HIDDEN;
        }
        Year y = now.log.get(i);
        return new int[] {y.ruler, y.light, y.governor}[what];
    }

    int step(int calendar, int i, int what) {
        if (calendar < 0 || calendar >= calendars.size() || what < 0 || what > 2) {
            return HIDDEN;
        }
        List<int[]> steps = calendars.get(calendar);
        return i < 0 || i >= steps.size() ? HIDDEN : steps.get(i)[what];
    }

    int goThrough(World w, List<int[]> steps, boolean remembered) {
        int done = 0;
        for (int[] s : steps) {
            if (whyNot(w, s[0], s[1], s[2]) != NONE) {
                break;
            }
            if (remembered) {
                remember();
            }
            doAct(w, s[0], s[1], s[2]);
            done++;
        }
        return done;
    }

    int run(int calendar, int what) {
        if (told == null || calendar < 0 || calendar >= calendars.size() || what < 0 || what > 1) {
            return HIDDEN;
        }
        World w = now.copy();
        int done = goThrough(w, calendars.get(calendar), false);
        if (what == 1) {
            return w.treasury - now.treasury;
        }
        return done == calendars.get(calendar).size() ? NONE : done;
    }

    int perform(int calendar) {
        if (told == null || calendar < 0 || calendar >= calendars.size()) {
            return NONE;
        }
        return goThrough(now, calendars.get(calendar), true);
    }

    int light(int day) {
        return isDay(day) ? lightOf(now, day) : NONE;
    }

    int coming(int what) {
        if (told == null || what < 0 || what > 1) {
            return NONE;
        }
        Year y = yearLater(now).log.get(0);
        return what == 0 ? y.ruler : y.light;
    }

    int may(int e) {
        if (told == null || e < 0 || e > 20) {
            return NONE;
        }
        int bits = 0;
        for (int day = 0; day < told.d; day++) {
            boolean may = true;
            for (int other = 0; other < told.d; other++) {
                may &= lightOf(now, day) - e <= lightOf(now, other) + e;
            }
            bits |= may ? 1 << day : 0;
        }
        return bits;
    }

    int governs(int n) {
        if (told == null || n < 0 || n > 60) {
            return HIDDEN;
        }
        World w = now;
        for (int i = 0; i < n; i++) {
            w = yearLater(w);
        }
        return w.governor;
    }

    int round(int what) {
        if (told == null || what < 0 || what > 1) {
            return NONE;
        }
        List<World> ends = new ArrayList<>();
        World w = now;
        for (int i = 1; i <= 60; i++) {
            w = yearLater(w);
            for (int j = 0; j < ends.size(); j++) {
                World e = ends.get(j);
                if (java.util.Arrays.equals(e.habit, w.habit) && java.util.Arrays.equals(e.voices, w.voices)) {
                    return what == 0 ? j + 1 : i - (j + 1);
                }
            }
            ends.add(w);
        }
        return NONE;
    }

    int swings(int kind) {
        if (!isKind(kind)) {
            return NONE;
        }
        int many = told.persons.size();
        for (int size = 0; size <= many; size++) {
            for (int bits = 0; bits < 1 << many; bits++) {
                World w = now.copy();
                for (int i = 0; i < many; i++) {
                    if ((bits >> i & 1) == 1) {
                        w.habit[i] = kind;
                    }
                }
                if (Integer.bitCount(bits) == size && yearLater(w).governor == kind) {
                    return bits;
                }
            }
        }
        return NONE;
    }

    int bedding(int kind) {
        if (!isKind(kind)) {
            return NONE;
        }
        int many = told.persons.size();
        for (int size = 0; size <= many; size++) {
            for (int bits = 0; bits < 1 << many; bits++) {
                if (Integer.bitCount(bits) != size || (bits & ~up(now)) != 0) {
                    continue;
                }
                World w = now.copy();
                for (int i = 0; i < many; i++) {
                    if ((bits >> i & 1) == 1) {
                        w.inBed[i] = true;
                    }
                }
                if (yearLater(w).governor == kind) {
                    return bits;
                }
            }
        }
        return NONE;
    }

    int coins(int n) {
        if (told == null || n < 0 || n > 99) {
            return NONE;
        }
        World w = now.copy();
        for (int i = 0; i < n; i++) {
            passDay(w);
        }
        return w.treasury;
    }

    int seen(int n, int v, boolean more) {
        if (told == null || n < 1 || n > 60 || v < 0 || v > 999 || seen.size() == 10) {
            return NONE;
        }
        seen.add(new Seen(n, v, more));
        return seen.size();
    }

    /** The treasuries behind 0 to 60 days, as told but for one habit. */
    int[] course(int person, int kind) {
        World w = begun();
        w.habit[person] = kind;
        int[] coins = new int[61];
        coins[0] = w.treasury;
        for (int i = 1; i <= 60; i++) {
            passDay(w);
            coins[i] = w.treasury;
        }
        return coins;
    }

    List<Integer> fitting(int person) {
        List<Integer> kinds = new ArrayList<>();
        for (int k = 0; k < told.kinds.size(); k++) {
            int[] coins = course(person, k);
            boolean fits = true;
            for (Seen s : seen) {
                fits &= s.more ? coins[s.n] >= s.v : coins[s.n] < s.v;
            }
            if (fits) {
                kinds.add(k);
            }
        }
        return kinds;
    }

    int habits(int person, int i) {
        if (!isPerson(person)) {
            return NONE;
        }
        List<Integer> kinds = fitting(person);
        return i == NONE ? kinds.size() : i < 0 || i >= kinds.size() ? NONE : kinds.get(i);
    }

    int ask(int person) {
        if (!isPerson(person) || fitting(person).isEmpty()) {
            return NONE;
        }
        int best = NONE;
        int least = 99;
        for (int n = 1; n <= 60; n++) {
            Map<Integer, Integer> groups = new HashMap<>();
            int most = 0;
            for (int k : fitting(person)) {
                most = Math.max(most, groups.merge(course(person, k)[n], 1, Integer::sum));
            }
            if (most < least) {
                least = most;
                best = n;
            }
        }
        return best;
    }

    boolean canPlay(int one, int other) {
        return isPerson(one) && isPerson(other) && one != other && !now.inBed[one] && !now.inBed[other];
    }

    int game(int one, int other, int x, int y, int what) {
        if (!canPlay(one, other) || !isKind(x) || !isKind(y) || what < 0 || what > 1) {
            return HIDDEN;
        }
        World w = now.copy();
        w.habit[one] = x;
        w.habit[other] = y;
        w = yearLater(w);
        int who = what == 0 ? one : other;
        int own = what == 0 ? x : y;
        return w.purse[who] - now.purse[who] + (w.governor == own ? 5 : 0);
    }

    int rests(int one, int other, int i) {
        if (!canPlay(one, other)) {
            return NONE;
        }
        TreeSet<Integer> rests = new TreeSet<>();
        int many = told.kinds.size();
        for (int x = 0; x < many; x++) {
            for (int y = 0; y < many; y++) {
                boolean rest = true;
                for (int z = 0; z < many; z++) {
                    rest &= game(one, other, z, y, 0) <= game(one, other, x, y, 0);
                    rest &= game(one, other, x, z, 1) <= game(one, other, x, y, 1);
                }
                if (rest) {
                    rests.add(10 * x + y);
                }
            }
        }
        return i == NONE ? rests.size() : i < 0 || i >= rests.size() ? NONE : new ArrayList<>(rests).get(i);
    }

    int odds(int day, int chance) {
        if (!isDay(day) || chance < 0 || chance > 100 || told.d - now.days.size() > 8) {
            return NONE;
        }
        List<Integer> lights = new ArrayList<>();
        for (Written w : now.days) {
            lights.add(w.light);
        }
        return oddsFrom(lights, day, chance, 1000000000L);
    }

    int oddsFrom(List<Integer> lights, int day, int chance, long part) {
        int next = lights.size();
        if (next == told.d) {
            int ruler = lights.indexOf(java.util.Collections.min(lights));
            return ruler == day ? (int) part : 0;
        }
        long foggy = part * chance / 100;
        lights.add(lightAhead(now, next, 9));
        int sum = oddsFrom(lights, day, chance, foggy);
        lights.set(next, lightAhead(now, next, 0));
        sum += oddsFrom(lights, day, chance, part - foggy);
        lights.remove(next);
        return sum;
    }

    int shares(int person, int c) {
        if (!isPerson(person) || c < 0 || c > 999) {
            return NONE;
        }
        int all = java.util.Arrays.stream(now.purse).sum();
        return all == 0 ? 0 : c * now.purse[person] / all;
    }

    int did(int day, int kind) {
        return !isDay(day) || day >= now.days.size() || !isKind(kind) ? NONE : now.days.get(day).did[kind];
    }

    int all(int what) {
        if (told == null || what < 0 || what > 8) {
            return HIDDEN;
        }
        int many = told.persons.size();
        int best = 0;
        switch (what) {
            case 0:
                for (int i = 0; i < many; i++) {
                    best = now.purse[i] > now.purse[best] ? i : best;
                }
                return best;
            case 1:
                for (int i = 0; i < many; i++) {
                    best = told.persons.get(i).o > told.persons.get(best).o ? i : best;
                }
                return best;
            case 2:
                for (int i = 0; i < told.kinds.size(); i++) {
                    best = told.kinds.get(i).v > told.kinds.get(best).v ? i : best;
                }
                return best;
            case 3:
                return up(now);
            case 4:
                for (int i = 0; i < many; i++) {
                    boolean dark = lightOf(now, now.days.size()) < told.kinds.get(now.habit[i]).n;
                    best |= dark && !now.inBed[i] ? 1 << i : 0;
                }
                return best;
            case 5:
                for (int i = 0; i < now.days.size(); i++) {
                    best = now.days.get(i).light < now.days.get(best).light ? i : best;
                }
                return now.days.isEmpty() ? NONE : best;
            case 6:
                return told.d - now.days.size();
            case 7:
                World later = yearLater(now);
                for (int i = 0; i < many; i++) {
                    best |= later.habit[i] != now.habit[i] ? 1 << i : 0;
                }
                return best;
            default:
                return now.governor;
        }
    }

    int image() {
        if (told == null) {
            return NONE;
        }
        picture = now.copy();
        return now.days.size();
    }

    int back() {
        if (picture == null) {
            return NONE;
        }
        now = picture.copy();
        past.clear();
        return now.days.size();
    }

    int count(int what) {
        boolean port = told != null;
        switch (what) {
            case 0: return port ? told.persons.size() : 0;
            case 1: return port ? told.kinds.size() : 0;
            case 2: return port ? told.d : 0;
            case 3: return laws.size();
            case 4: return calendars.size();
            case 5: return tape.size();
            case 6: return lawHolds;
            case 7: return port ? now.year : 0;
            case 8: return port ? now.days.size() : 0;
            case 9: return port ? now.treasury : 0;
            case 10: return port ? now.fog : 0;
            case 11: return port && now.eclipse ? 1 : 0;
            case 12: return port ? now.candles : 0;
            case 13: return whim;
            case 14: return seen.size();
            case 15: return port ? now.log.size() : 0;
            case 16: return past.size();
            default: return HIDDEN;
        }
    }
}
