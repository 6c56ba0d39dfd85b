import java.util.NoSuchElementException;

/** A northern seaport whose years are governed by their darkest day; see README.md and DOC.md. */
public final class DarkestDay {
    public static final int NONE = -1;
    public static final int HIDDEN = -1000000;

    private static final int NO_SUCH_SORT = -2;
    private static final int MOST_PERSONS = 6;
    private static final int MOST_KINDS = 6;
    private static final int MOST_DAYS = 30;
    private static final int MOST_TEXTS = 4;
    private static final int MOST_BYTES = 240;
    private static final int MOST_LIGHT = 99;
    private static final int MOST_PURSE = 9999;
    private static final int MOST_TREASURY = 999;
    private static final int MOST_FOG = 9;
    private static final int MOST_CANDLES = 20;
    private static final int MOST_YEAR = 999;
    private static final int YEARS_LOGGED = 60;
    private static final int MOST_AHEAD = 60;

    private static final int SEAPORT_TEXT = 0;
    private static final int LAW_TEXT = 1;
    private static final int CALENDAR_TEXT = 2;

    /* Why an act is refused: the numbers of STATUS. */
    private static final int MISSING = 0;
    private static final int OUT_OF_BOUNDS = 1;
    private static final int IS_SO = 2;
    private static final int COINS = 3;
    private static final int TOO_LATE = 4;
    private static final int REASONS = 5;

    /* The acts; the first six bear the numbers of a calendar's steps. */
    private static final int PASS_ACT = 0;
    private static final int HABIT_ACT = 1;
    private static final int BED_ACT = 2;
    private static final int FOG_ACT = 3;
    private static final int ECLIPSE_ACT = 4;
    private static final int CANDLES_ACT = 5;
    private static final int GIVE_ACT = 6;

    private final Tape tape = new Tape();
    private final Port port = new Port();
    private final Port draft = new Port();
    private final LawReader lawReader = new LawReader();
    /* One place more than can be filled: what is being read stands in the first free one. */
    private final Law[] laws = new Law[MOST_TEXTS + 1];
    private final Calendar[] calendars = new Calendar[MOST_TEXTS + 1];
    private final Row refusals = new Row(REASONS);
    private final Course course = new Course(port);
    private final Outlook outlook = new Outlook(port, course);
    private final Witness witness = new Witness(port, course);
    private final History history = new History();
    private final State now = new State();
    private final State picture = new State();
    private boolean pictured = false;
    private int lawCount = 0;
    private int calendarCount = 0;
    private int lawThatHolds = NONE;
    private int whimsy = 2;

    public DarkestDay() {
        for (int i = 0; i < laws.length; i++) {
            laws[i] = new Law();
        }
        for (int i = 0; i < calendars.length; i++) {
            calendars[i] = new Calendar();
        }
    }

    // ---- texts

    public int feed(int a, int b, int c, int d, int e) {
        int more = Tape.bytesIn(a) + Tape.bytesIn(b) + Tape.bytesIn(c) + Tape.bytesIn(d) + Tape.bytesIn(e);
        if (tape.length() + more > MOST_BYTES) {
            return NONE;
        }
        tape.append(a);
        tape.append(b);
        tape.append(c);
        tape.append(d);
        tape.append(e);
        return tape.length();
    }

    public boolean end(int n) {
        if (n < 0 || n > tape.length()) {
            return false;
        }
        tape.cut(n);
        return true;
    }

    public int fault(int sort) {
        if (sort < SEAPORT_TEXT || sort > CALENDAR_TEXT) {
            return NO_SUCH_SORT;
        }
        return readsAs(sort) ? NONE : tape.cursor();
    }

    public int text(int sort) {
        if (sort < SEAPORT_TEXT || sort > CALENDAR_TEXT || !hasPlaceFor(sort) || !readsAs(sort)) {
            return NONE;
        }
        tape.cut(0);
        if (sort == LAW_TEXT) {
            return lawCount++;
        }
        if (sort == CALENDAR_TEXT) {
            return calendarCount++;
        }
        openPort();
        return port.persons();
    }

    private boolean hasPlaceFor(int sort) {
        return sort == SEAPORT_TEXT || (sort == LAW_TEXT ? lawCount : calendarCount) < MOST_TEXTS;
    }

    /** Reads the tape; if it is no such text, the tape's cursor stands at the fault then. */
    private boolean readsAs(int sort) {
        tape.rewind();
        if (sort == LAW_TEXT) {
            return lawReader.reads(tape, lawAt(lawCount));
        }
        if (sort == CALENDAR_TEXT) {
            Calendar calendar = calendarAt(calendarCount);
            return calendar != null && calendar.reads(tape);
        }
        return draft.reads(tape);
    }

    private void openPort() {
        port.copy(draft);
        now.begin(port);
        history.clear();
        witness.forget();
        pictured = false;
    }

    private Law lawAt(int i) {
        return i >= 0 && i < laws.length ? laws[i] : null;
    }

    private Calendar calendarAt(int i) {
        return i >= 0 && i < calendars.length ? calendars[i] : null;
    }

    // ---- what there is

    private boolean isPort() {
        return port.persons() > 0;
    }

    public int kind(int kind, int what) {
        if (!port.isKind(kind)) {
            return HIDDEN;
        }
        switch (what) {
            case 0: return port.get(Port.BRINGS + kind);
            case 1: return port.get(Port.NEEDS + kind);
            case 2: return now.get(State.VOICES + kind);
            case 3: return now.party(kind, port.persons());
            default: return HIDDEN;
        }
    }

    public int person(int person, int what) throws NoSuchElementException {
        if (!port.isPerson(person) || what < 0 || what > 3) {
            throw new NoSuchElementException();
        }
        switch (what) {
            case 0: return now.get(State.HABITS + person);
            case 1: return port.get(Port.OBSTINACY + person);
            case 2: return now.isInBed(person) ? 1 : 0;
            default: return now.get(State.PURSES + person);
        }
    }

    public boolean law(int law) {
        if (law < NONE || law >= lawCount) {
            return false;
        }
        lawThatHolds = law;
        course.setLaw(lawAt(law));
        return true;
    }

    public boolean whim(int v) {
        if (v < 0 || v > 9 || v == whimsy) {
            return false;
        }
        whimsy = v;
        return true;
    }

    // ---- acts

    public int pass() {
        int day = now.get(State.DAY);
        // The year's end leaves what is written down in its place until the next year writes over it.
        return acted(PASS_ACT, NONE, NONE) ? now.get(State.LIGHTS + day) : NONE;
    }

    public int habit(int person, int kind) {
        int was = port.isPerson(person) ? now.get(State.HABITS + person) : NONE;
        return acted(HABIT_ACT, person, kind) ? was : NONE;
    }

    public int bed(int person) {
        if (!acted(BED_ACT, person, NONE)) {
            return NONE;
        }
        return now.isInBed(person) ? 1 : 0;
    }

    public int fog(int v) {
        int was = now.get(State.FOG);
        return acted(FOG_ACT, v, NONE) ? was : NONE;
    }

    public int eclipse() {
        return acted(ECLIPSE_ACT, NONE, NONE) ? now.get(State.TREASURY) : NONE;
    }

    public int candles(int n) {
        return acted(CANDLES_ACT, n, NONE) ? now.get(State.CANDLES) : NONE;
    }

    public int give(int n) {
        return acted(GIVE_ACT, n, NONE) ? now.get(State.TREASURY) : NONE;
    }

    private boolean acted(int act, int one, int two) {
        int why = course.whyNot(now, act, one, two);
        if (why != NONE) {
            refusals.set(why, refusals.get(why) + 1);
            return false;
        }
        history.keep(now);
        course.carryOut(now, act, one, two);
        return true;
    }

    public int years(int n, long seed) {
        if (!isPort() || n < 1 || n > MOST_AHEAD || course.daysThatCanPass(now) < n) {
            return NONE;
        }
        course.setSeed(seed);
        for (int i = 0; i < n; i++) {
            history.keep(now);
            course.drawDay(now, whimsy);
            course.passDay(now);
        }
        return now.get(State.DAY);
    }

    public int status(int what) {
        return what < 0 || what >= REASONS ? NONE : refusals.get(what);
    }

    public int undo() {
        return history.restores(now) ? history.size() : NONE;
    }

    public int log(int i, int what) {
        if (i < 0 || i >= now.yearsLogged() || what < 0 || what > 2) {
            return HIDDEN;
        }
        return now.logged(i, what);
    }

    // ---- calendars

    public int step(int calendar, int i, int what) {
        if (!isCalendar(calendar) || what < 0 || what >= Calendar.WIDTH) {
            return HIDDEN;
        }
        Calendar told = calendarAt(calendar);
        return told == null || i < 0 || i >= told.steps() ? HIDDEN : told.told(i, what);
    }

    public int run(int calendar, int what) {
        if (!isCalendar(calendar) || !isPort() || what < 0 || what > 1) {
            return HIDDEN;
        }
        return outlook.runOf(now, calendarAt(calendar), what);
    }

    public int perform(int calendar) {
        Calendar told = calendarAt(calendar);
        if (!isCalendar(calendar) || told == null || !isPort()) {
            return NONE;
        }
        int done = 0;
        while (done < told.steps() && course.canStep(now, told, done)) {
            history.keep(now);
            course.carryOut(now, told.told(done, 0), told.told(done, 1), told.told(done, 2));
            done++;
        }
        return done;
    }

    private boolean isCalendar(int calendar) {
        return calendar >= 0 && calendar < calendarCount;
    }

    // ---- what is to come

    public int light(int day) {
        return port.isDay(day) ? course.lightOf(now, day) : NONE;
    }

    public int coming(int what) {
        if (!isPort() || what < 0 || what > 1) {
            return NONE;
        }
        int ruler = course.rulerOf(now, now.upCount(port.persons()));
        return what == 0 ? ruler : course.lightOf(now, ruler);
    }

    public int may(int e) {
        return !isPort() || e < 0 || e > 20 ? NONE : outlook.maybeDarkest(now, e);
    }

    public int governs(int n) {
        return !isPort() || n < 0 || n > MOST_AHEAD ? HIDDEN : outlook.governorBehind(now, n);
    }

    public int round(int what) {
        return !isPort() || what < 0 || what > 1 ? NONE : outlook.comingRound(now, what);
    }

    public int swings(int kind) {
        return port.isKind(kind) ? outlook.fewestSwings(now, kind) : NONE;
    }

    public int bedding(int kind) {
        return port.isKind(kind) ? outlook.fewestInBed(now, kind) : NONE;
    }

    public int coins(int n) {
        return !isPort() || n < 0 || n > 99 ? NONE : outlook.treasuryBehind(now, n);
    }

    public int seen(int n, int v, boolean more) {
        if (!isPort() || n < 1 || n > MOST_AHEAD || v < 0 || v > MOST_TREASURY || witness.isFull()) {
            return NONE;
        }
        witness.note(n, v, more);
        return witness.size();
    }

    public int habits(int person, int i) {
        if (!port.isPerson(person)) {
            return NONE;
        }
        int possible = witness.possibleHabits(person);
        return i == NONE ? Integer.bitCount(possible) : placeOfBit(possible, i);
    }

    /** The place of the i-th bit that is set, NONE if there are not so many. */
    private static int placeOfBit(int bits, int i) {
        int seen = 0;
        for (int place = 0; place < MOST_KINDS; place++) {
            if (hasBit(bits, place)) {
                if (seen == i) {
                    return place;
                }
                seen++;
            }
        }
        return NONE;
    }

    public int ask(int person) {
        return port.isPerson(person) ? witness.bestQuestion(person) : NONE;
    }

    public int game(int one, int other, int x, int y, int what) {
        if (!canPlay(one, other) || !port.isKind(x) || !port.isKind(y) || what < 0 || what > 1) {
            return HIDDEN;
        }
        return outlook.gameOf(now, one, other, x, y, what);
    }

    public int rests(int one, int other, int i) {
        return canPlay(one, other) ? outlook.restsOf(now, one, other, i) : NONE;
    }

    private boolean canPlay(int one, int other) {
        return one != other && port.isPerson(one) && port.isPerson(other)
                && !now.isInBed(one) && !now.isInBed(other);
    }

    public int odds(int day, int chance) {
        if (!port.isDay(day) || chance < 0 || chance > 100 || daysLeft() > Outlook.MOST_DRAWN_DAYS) {
            return NONE;
        }
        return outlook.oddsOf(now, day, chance);
    }

    // ---- counts

    private int daysLeft() {
        return port.get(Port.DAYS) - now.get(State.DAY);
    }

    public int shares(int person, int c) {
        if (!port.isPerson(person) || c < 0 || c > 999) {
            return NONE;
        }
        int whole = 0;
        for (int i = 0; i < port.persons(); i++) {
            whole += now.get(State.PURSES + i);
        }
        return whole <= 0 ? 0 : c * now.get(State.PURSES + person) / whole;
    }

    public int did(int day, int kind) {
        if (!port.isDay(day) || day >= now.get(State.DAY) || !port.isKind(kind)) {
            return NONE;
        }
        return Course.doersOf(now.get(State.DOINGS + day), kind);
    }

    public int all(int what) {
        if (!isPort()) {
            return HIDDEN;
        }
        switch (what) {
            case 0: return now.placeOfMost(State.PURSES, port.persons());
            case 1: return port.placeOfMost(Port.OBSTINACY, port.persons());
            case 2: return port.placeOfMost(Port.BRINGS, port.kinds());
            case 3: return now.upBits(port.persons());
            case 4: return course.idle(now);
            case 5: return now.darkestOver();
            case 6: return daysLeft();
            case 7: return outlook.swayed(now);
            case 8: return now.get(State.GOVERNOR);
            default: return HIDDEN;
        }
    }

    public int image() {
        if (!isPort()) {
            return NONE;
        }
        picture.copy(now);
        pictured = true;
        return now.get(State.DAY);
    }

    public int back() {
        if (!pictured) {
            return NONE;
        }
        now.copy(picture);
        history.clear();
        return now.get(State.DAY);
    }

    public int count(int what) {
        switch (what) {
            case 0: return port.persons();
            case 1: return port.kinds();
            case 2: return port.get(Port.DAYS);
            case 3: return lawCount;
            case 4: return calendarCount;
            case 5: return tape.length();
            case 6: return lawThatHolds;
            case 7: return now.get(State.YEAR);
            case 8: return now.get(State.DAY);
            case 9: return now.get(State.TREASURY);
            case 10: return now.get(State.FOG);
            case 11: return now.get(State.ECLIPSE);
            case 12: return now.get(State.CANDLES);
            case 13: return whimsy;
            case 14: return witness.size();
            case 15: return now.yearsLogged();
            case 16: return history.size();
            default: return HIDDEN;
        }
    }

    // ---- small helps of all classes here

    private static boolean hasBit(int bits, int place) {
        return (bits >> place & 1) != 0;
    }

    private static boolean isDigit(int sign) {
        return sign >= '0' && sign <= '9';
    }

    private static int placeIn(char[] signs, int sign) {
        if (signs == null) {
            return NONE;
        }
        for (int i = 0; i < signs.length; i++) {
            if (signs[i] == sign) {
                return i;
            }
        }
        return NONE;
    }

    private static int entry(int[] table, int i) {
        return table != null && i >= 0 && i < table.length ? table[i] : 0;
    }

    /** Numbers in a row; a place outside of it holds 0 and takes nothing, so that no index can be wrong. */
    private static class Row {
        private final int[] cells;

        Row(int size) {
            cells = new int[size < 0 ? 0 : size];
        }

        final int get(int i) {
            return i >= 0 && i < cells.length ? cells[i] : 0;
        }

        final void set(int i, int value) {
            if (i >= 0 && i < cells.length) {
                cells[i] = value;
            }
        }

        final void fill(int value) {
            for (int i = 0; i < cells.length; i++) {
                cells[i] = value;
            }
        }

        final void copy(Row other) {
            if (other != null) {
                System.arraycopy(other.cells, 0, cells, 0, Math.min(cells.length, other.cells.length));
            }
        }

        /** How far behind the first place the greatest of so many stands, of several the first. */
        final int placeOfMost(int first, int count) {
            int best = first;
            for (int i = first + 1; i < first + count && i < cells.length; i++) {
                if (best >= 0 && i >= 0 && best < cells.length && cells[i] > cells[best]) {
                    best = i;
                }
            }
            return best - first;
        }
    }

    /** The bytes told, and a cursor over them for whoever reads. */
    private static final class Tape {
        static final int END = 0;

        private final int[] bytes = new int[MOST_BYTES];
        private int length = 0;
        private int cursor = 0;
        private int number = 0;

        static int bytesIn(int word) {
            int count = 0;
            for (int shift = 24; shift >= 0; shift -= 8) {
                count += (word >> shift & 255) != 0 ? 1 : 0;
            }
            return count;
        }

        void append(int word) {
            for (int shift = 24; shift >= 0; shift -= 8) {
                int sign = word >> shift & 255;
                if (sign != 0 && length >= 0 && length < bytes.length) {
                    bytes[length] = sign;
                    length++;
                }
            }
        }

        void cut(int n) {
            length = n;
        }

        int length() {
            return length;
        }

        int cursor() {
            return cursor;
        }

        void rewind() {
            cursor = 0;
        }

        void advance() {
            cursor++;
        }

        /** The next sign behind all blanks, END behind the last one; the cursor stands at it then. */
        int nextSign() {
            while (cursor >= 0 && cursor < length && cursor < bytes.length) {
                if (bytes[cursor] != ' ') {
                    return bytes[cursor];
                }
                cursor++;
            }
            return END;
        }

        private int signAt(int i) {
            return i >= 0 && i < length && i < bytes.length ? bytes[i] : END;
        }

        /** Reads a number of so many digits at most; if there is none, the cursor stands at what is wrong. */
        boolean readsNumber(int digits, int least, int most) {
            if (!isDigit(nextSign())) {
                return false;
            }
            number = 0;
            for (int i = 0; i < digits && isDigit(signAt(cursor)); i++) {
                number = number * 10 + signAt(cursor) - '0';
                cursor++;
            }
            if (isDigit(signAt(cursor))) {
                return false;
            }
            if (number < least || number > most) {
                cursor--;
                return false;
            }
            return true;
        }

        int number() {
            return number;
        }
    }

    /** A seaport as it is told, or none at all (without persons). */
    private static final class Port extends Row {
        static final int DAYS = 0;
        static final int TREASURY = 1;
        static final int FOG = 2;
        static final int BRINGS = 3;
        static final int NEEDS = BRINGS + MOST_KINDS;
        static final int HABITS = NEEDS + MOST_KINDS;
        static final int OBSTINACY = HABITS + MOST_PERSONS;
        static final int BEDS = OBSTINACY + MOST_PERSONS;
        static final int RULES = BEDS + MOST_PERSONS;
        static final int KINDS = RULES + 1;
        static final int PERSONS = KINDS + 1;
        static final int SIZE = PERSONS + 1;

        /* The items: of which clause, their letter, their bounds, what they are untold, where they stand. */
        private static final char[] CLAUSES = {'s', 's', 's', 'k', 'k', 'p', 'p', 'p'};
        private static final char[] LETTERS = {'d', 't', 'f', 'v', 'n', 'h', 'o', 'b'};
        private static final int[] LEAST = {2, 0, 0, 0, 0, 0, 0, 0};
        private static final int[] MOST = {30, 99, 9, 9, 30, 5, 9, 1};
        private static final int[] USUAL = {8, 20, 0, 3, 4, 0, 2, 0};
        private static final int[] CELLS = {DAYS, TREASURY, FOG, BRINGS, NEEDS, HABITS, OBSTINACY, BEDS};
        private static final int MOST_CLAUSES = 1 + MOST_KINDS + MOST_PERSONS;

        Port() {
            super(SIZE);
        }

        int persons() {
            return get(PERSONS);
        }

        int kinds() {
            return get(KINDS);
        }

        boolean isPerson(int person) {
            return person >= 0 && person < get(PERSONS);
        }

        boolean isKind(int kind) {
            return kind >= 0 && kind < get(KINDS);
        }

        boolean isDay(int day) {
            return day >= 0 && day < get(DAYS);
        }

        boolean reads(Tape tape) {
            if (tape == null) {
                return false;
            }
            fillUsual();
            for (int i = 0; i <= MOST_CLAUSES; i++) {
                if (!readsClause(tape)) {
                    return false;
                }
                int sign = tape.nextSign();
                if (sign == Tape.END) {
                    return isWhole();
                }
                if (sign != ';') {
                    return false;
                }
                tape.advance();
            }
            return false;
        }

        private void fillUsual() {
            fill(0);
            for (int item = 0; item < CELLS.length; item++) {
                int places = entry(CELLS, item) < BRINGS ? 1 : MOST_KINDS;
                for (int i = 0; i < places; i++) {
                    set(entry(CELLS, item) + i, entry(USUAL, item));
                }
            }
        }

        private boolean isWhole() {
            if (kinds() < 1 || persons() < 2) {
                return false;
            }
            for (int i = 0; i < persons() && i < MOST_PERSONS; i++) {
                if (!isKind(get(HABITS + i))) {
                    return false;
                }
            }
            return true;
        }

        private boolean readsClause(Tape tape) {
            int clause = tape.nextSign();
            int counter = clause == 's' ? RULES : clause == 'k' ? KINDS : clause == 'p' ? PERSONS : NONE;
            int most = clause == 's' ? 1 : clause == 'k' ? MOST_KINDS : MOST_PERSONS;
            int index = get(counter);
            if (counter == NONE || index >= most) {
                return false;
            }
            tape.advance();
            set(counter, index + 1);
            return readsItems(tape, clause, index);
        }

        private boolean readsItems(Tape tape, int clause, int index) {
            int told = 0;
            for (int i = 0; i <= LETTERS.length; i++) {
                int item = placeIn(LETTERS, tape.nextSign());
                if (item == NONE || item >= CLAUSES.length || CLAUSES[item] != clause) {
                    return true;
                }
                if (hasBit(told, item)) {
                    return false;
                }
                told |= 1 << item;
                tape.advance();
                if (!tape.readsNumber(2, entry(LEAST, item), entry(MOST, item))) {
                    return false;
                }
                set(entry(CELLS, item) + index, tape.number());
            }
            return true;
        }
    }

    /** A law of how light a day is, as signs in the order in which they are reckoned. */
    private static final class Law extends Row {
        /* A number stands for itself, the i-th letter as -1 - i, another sign as itself below 0. */
        static final char[] LETTERS = {'i', 'd', 'f', 'u', 'y', 'r'};
        private static final int LAST_LETTER = -6;
        private static final int MOST_WORTH = 1000000;

        private int length = 0;

        Law() {
            super(MOST_BYTES);
        }

        void clear() {
            length = 0;
        }

        void add(int code) {
            if (length < MOST_BYTES) {
                set(length, code);
                length++;
            }
        }

        int worth(Row letters, Row stack) {
            int top = 0;
            boolean skipping = false;
            for (int i = 0; i < length; i++) {
                int code = get(i);
                if (skipping) {
                    skipping = code != -';';
                } else if (code >= 0) {
                    stack.set(top, code);
                    top++;
                } else if (code >= LAST_LETTER) {
                    stack.set(top, letters.get(-1 - code));
                    top++;
                } else if (code == -';') {
                    return stack.get(top - 1);
                } else if (code == -'?') {
                    top--;
                    skipping = stack.get(top) == 0;
                } else if (code == -'!') {
                    stack.set(top - 1, 1 - stack.get(top - 1));
                } else {
                    top--;
                    stack.set(top - 1, joined(-code, stack.get(top - 1), stack.get(top)));
                }
            }
            return 0;
        }

        private static int joined(int sign, int a, int b) {
            long worth = 0;
            switch (sign) {
                case '|': worth = a | b; break;
                case '&': worth = a & b; break;
                case '=': worth = a == b ? 1 : 0; break;
                case '<': worth = a < b ? 1 : 0; break;
                case '>': worth = a > b ? 1 : 0; break;
                case '+': worth = (long) a + b; break;
                case '-': worth = (long) a - b; break;
                case '*': worth = (long) a * b; break;
                case '/': worth = b == 0 ? 0 : (long) a / b; break;
                default: break;
            }
            return worth < -MOST_WORTH ? -MOST_WORTH : worth > MOST_WORTH ? MOST_WORTH : (int) worth;
        }
    }

    /** Reads laws: signs that bind less wait for those that bind more. */
    private static final class LawReader {
        private static final int AT_HEAD = 0;
        private static final int AT_COLON = 1;
        private static final int AT_UNIT = 2;
        private static final int AT_ATOM = 3;
        private static final int BEHIND_ATOM = 4;
        private static final int BEHIND_UNIT = 5;
        private static final int MOST_NESTED = 6;
        private static final int MOST_WAITING = 64;

        private final Row waiting = new Row(MOST_WAITING);
        private int waits = 0;
        private int phase = AT_HEAD;
        private int nested = 0;
        private int rounds = 0;
        private int squares = 0;
        /* Of the clause: it has a condition; its sum is being read; of the unit: its = < > was there. */
        private boolean conditional = false;
        private boolean answering = false;
        private boolean compared = false;

        boolean reads(Tape tape, Law law) {
            if (tape == null || law == null) {
                return false;
            }
            law.clear();
            begin();
            for (int i = 0; i <= MOST_BYTES; i++) {
                int sign = tape.nextSign();
                if (sign == Tape.END) {
                    break;
                }
                if (phase != BEHIND_ATOM && phase != BEHIND_UNIT) {
                    if (!takes(sign, tape, law)) {
                        return false;
                    }
                } else if (fitsBehind(sign)) {
                    tape.advance();
                    goOnBehind(sign, law);
                } else {
                    return false;
                }
            }
            if (!mayEnd()) {
                return false;
            }
            goOnBehind(';', law);
            return true;
        }

        private void begin() {
            waits = 0;
            phase = AT_HEAD;
            nested = 0;
            rounds = 0;
            squares = 0;
            compared = false;
        }

        private boolean takes(int sign, Tape tape, Law law) {
            switch (phase) {
                case AT_HEAD:
                    return takesIf(sign == 'y', AT_COLON, tape);
                case AT_COLON:
                    conditional = false;
                    answering = false;
                    return takesIf(sign == ':', AT_UNIT, tape);
                default:
                    boolean opening = sign == '[' || phase == AT_UNIT && (sign == '!' || sign == '(');
                    return opening ? opens(sign, tape) : takesAtom(sign, tape, law);
            }
        }

        private boolean takesIf(boolean fits, int next, Tape tape) {
            if (fits) {
                tape.advance();
                phase = next;
            }
            return fits;
        }

        private boolean opens(int sign, Tape tape) {
            if (nested >= MOST_NESTED) {
                return false;
            }
            tape.advance();
            nested++;
            if (sign == '[') {
                squares++;
                phase = AT_ATOM;
            } else {
                rounds += sign == '(' ? 1 : 0;
                conditional = true;
            }
            await(sign);
            return true;
        }

        private boolean takesAtom(int sign, Tape tape, Law law) {
            if (isDigit(sign)) {
                if (!tape.readsNumber(4, 0, 9999)) {
                    return false;
                }
                law.add(tape.number());
            } else {
                int letter = placeIn(Law.LETTERS, sign);
                if (letter == NONE) {
                    return false;
                }
                tape.advance();
                law.add(-1 - letter);
            }
            phase = BEHIND_ATOM;
            return true;
        }

        private boolean mayEnd() {
            return phase == BEHIND_ATOM && squares == 0 && rounds == 0 && (answering || !conditional);
        }

        private boolean fitsBehind(int sign) {
            boolean behindAtom = phase == BEHIND_ATOM;
            boolean unitIsWhole = squares == 0 && (phase == BEHIND_UNIT || compared);
            switch (sign) {
                case '+':
                case '-':
                case '*':
                case '/': return behindAtom;
                case '=':
                case '<':
                case '>': return behindAtom && squares == 0 && !compared && !answering;
                case ']': return behindAtom && squares > 0;
                case '&':
                case '|': return unitIsWhole;
                case ')': return unitIsWhole && rounds > 0;
                case '?': return unitIsWhole && rounds == 0;
                case ';': return mayEnd();
                default: return false;
            }
        }

        private void goOnBehind(int sign, Law law) {
            release(Math.max(1, strengthOf(sign)), law);
            switch (sign) {
                case ']':
                    closeBracket();
                    squares--;
                    phase = BEHIND_ATOM;
                    break;
                case ')':
                    closeBracket();
                    rounds--;
                    phase = BEHIND_UNIT;
                    break;
                case ';':
                    law.add(-';');
                    phase = AT_HEAD;
                    break;
                case '?':
                    law.add(-'?');
                    answering = true;
                    compared = false;
                    phase = AT_ATOM;
                    break;
                case '&':
                case '|':
                    await(sign);
                    compared = false;
                    phase = AT_UNIT;
                    break;
                default:
                    await(sign);
                    if (sign == '=' || sign == '<' || sign == '>') {
                        compared = true;
                        conditional = true;
                    }
                    phase = AT_ATOM;
            }
        }

        private void await(int sign) {
            if (waits < MOST_WAITING) {
                waiting.set(waits, sign);
                waits++;
            }
        }

        /** Hands on what waits and binds as much or more, up to the latest bracket. */
        private void release(int strength, Law law) {
            while (waits > 0 && strengthOf(waiting.get(waits - 1)) >= strength) {
                waits--;
                law.add(-waiting.get(waits));
                nested -= waiting.get(waits) == '!' ? 1 : 0;
            }
        }

        private void closeBracket() {
            waits = Math.max(0, waits - 1);
            nested--;
        }

        private static int strengthOf(int sign) {
            switch (sign) {
                case '|': return 1;
                case '&': return 2;
                case '!': return 3;
                case '=':
                case '<':
                case '>': return 4;
                case '+':
                case '-': return 5;
                case '*':
                case '/': return 6;
                default: return 0;
            }
        }
    }

    /** A calendar: steps of an act and up to two digits. */
    private static final class Calendar extends Row {
        static final int WIDTH = 3;

        private static final int MOST_STEPS = 20;
        private static final char[] LETTERS = {'d', 'h', 'b', 'f', 'e', 'c'};
        private static final int[] DIGITS = {0, 2, 1, 1, 0, 1};

        private int steps = 0;

        Calendar() {
            super(MOST_STEPS * WIDTH);
        }

        int steps() {
            return steps;
        }

        int told(int i, int what) {
            return get(i * WIDTH + what);
        }

        boolean reads(Tape tape) {
            steps = 0;
            if (tape == null) {
                return false;
            }
            for (int i = 0; i < MOST_STEPS; i++) {
                if (!readsStep(tape)) {
                    return false;
                }
                int sign = tape.nextSign();
                if (sign == Tape.END) {
                    return true;
                }
                if (sign != ';' || steps >= MOST_STEPS) {
                    return false;
                }
                tape.advance();
            }
            return false;
        }

        private boolean readsStep(Tape tape) {
            int act = placeIn(LETTERS, tape.nextSign());
            if (act == NONE) {
                return false;
            }
            tape.advance();
            int first = steps * WIDTH;
            set(first, act);
            for (int i = 1; i < WIDTH; i++) {
                set(first + i, NONE);
                if (i <= entry(DIGITS, act)) {
                    int sign = tape.nextSign();
                    if (!isDigit(sign)) {
                        return false;
                    }
                    tape.advance();
                    set(first + i, sign - '0');
                }
            }
            steps++;
            return true;
        }
    }

    /** How it is in a seaport: all that an image keeps. */
    private static final class State extends Row {
        static final int HABITS = 0;
        static final int PURSES = HABITS + MOST_PERSONS;
        static final int VOICES = PURSES + MOST_PERSONS;
        static final int LIGHTS = VOICES + MOST_KINDS;
        static final int DOINGS = LIGHTS + MOST_DAYS;
        static final int LOG = DOINGS + MOST_DAYS;
        static final int BEDS = LOG + YEARS_LOGGED;
        static final int FOG = BEDS + 1;
        static final int ECLIPSE = FOG + 1;
        static final int CANDLES = ECLIPSE + 1;
        static final int TREASURY = CANDLES + 1;
        static final int GOVERNOR = TREASURY + 1;
        static final int YEAR = GOVERNOR + 1;
        static final int DAY = YEAR + 1;
        static final int SIZE = DAY + 1;

        State() {
            super(SIZE);
        }

        void begin(Port port) {
            fill(0);
            int beds = 0;
            for (int i = 0; i < MOST_PERSONS; i++) {
                set(HABITS + i, port.get(Port.HABITS + i));
                beds |= port.get(Port.BEDS + i) << i;
            }
            set(BEDS, beds);
            set(FOG, port.get(Port.FOG));
            set(TREASURY, port.get(Port.TREASURY));
            set(GOVERNOR, NONE);
        }

        boolean isInBed(int person) {
            return hasBit(get(BEDS), person);
        }

        int upBits(int persons) {
            return (1 << persons) - 1 & ~get(BEDS);
        }

        int upCount(int persons) {
            return Integer.bitCount(upBits(persons));
        }

        int party(int kind, int persons) {
            int bits = 0;
            for (int i = 0; i < persons && i < MOST_PERSONS; i++) {
                bits |= get(HABITS + i) == kind ? 1 << i : 0;
            }
            return bits;
        }

        /** How many voices the governor has. */
        int governingVoices() {
            int governor = get(GOVERNOR);
            return governor < 0 || governor >= MOST_KINDS ? 0 : get(VOICES + governor);
        }

        /** The darkest day of those that are over, NONE if none is. */
        int darkestOver() {
            int darkest = NONE;
            for (int i = 0; i < get(DAY) && i < MOST_DAYS; i++) {
                if (darkest == NONE || get(LIGHTS + i) < get(LIGHTS + darkest)) {
                    darkest = i;
                }
            }
            return darkest;
        }

        void writeLog(int year, int ruler, int light) {
            set(LOG + year % YEARS_LOGGED, ruler | light << 8 | get(GOVERNOR) + 1 << 16);
        }

        int yearsLogged() {
            return Math.min(YEARS_LOGGED, get(YEAR));
        }

        int logged(int yearsAgo, int what) {
            int year = get(YEAR) - 1 - yearsAgo;
            int entry = year < 0 ? 0 : get(LOG + year % YEARS_LOGGED);
            return what == 0 ? entry & 255 : what == 1 ? entry >> 8 & 255 : (entry >> 16) - 1;
        }
    }

    /** How things go: the light, what acts and days do, and how a year ends. */
    private static final class Course {
        private static final int ECLIPSE_PRICE = 10;
        private static final int MOST_LIT = 9;
        private static final int MOST_GIVEN = 50;
        private static final int BITS = 3;

        private final Port port;
        private final Row letters = new Row(Law.LETTERS.length);
        private final Row stack = new Row(64);
        private Law law = null;
        private long chance = 0;

        Course(Port port) {
            this.port = port;
        }

        void setLaw(Law law) {
            this.law = law;
        }

        // -- light

        /** The light of a day that is not over, if there is such fog and so many are up. */
        int lightAhead(State s, int day, int fog, int up) {
            boolean isNext = day == s.get(State.DAY);
            if (isNext && s.get(State.ECLIPSE) != 0) {
                return 0;
            }
            int days = port.get(Port.DAYS);
            int worth = 2 * Math.abs(day - days / 2) + 4 - fog;
            if (law != null) {
                letters.set(0, day);
                letters.set(1, days);
                letters.set(2, fog);
                letters.set(3, up);
                letters.set(4, s.get(State.YEAR) % 100);
                letters.set(5, s.governingVoices());
                worth = law.worth(letters, stack);
            }
            int light = Math.max(0, Math.min(MOST_LIGHT, worth));
            return isNext ? Math.min(MOST_LIGHT, light + 2 * s.get(State.CANDLES)) : light;
        }

        int lightOf(State s, int day) {
            return day < s.get(State.DAY) ? s.get(State.LIGHTS + day)
                    : lightAhead(s, day, s.get(State.FOG), s.upCount(port.persons()));
        }

        /** The darkest day of this year, if so many are up from now on. */
        int rulerOf(State s, int up) {
            int ruler = s.darkestOver();
            int least = ruler == NONE ? MOST_LIGHT + 1 : s.get(State.LIGHTS + ruler);
            for (int day = s.get(State.DAY); day < port.get(Port.DAYS); day++) {
                int light = lightAhead(s, day, s.get(State.FOG), up);
                if (light < least) {
                    least = light;
                    ruler = day;
                }
            }
            return ruler;
        }

        int idle(State s) {
            int light = lightOf(s, s.get(State.DAY));
            int bits = 0;
            for (int i = 0; i < port.persons(); i++) {
                boolean tooDark = light < port.get(Port.NEEDS + s.get(State.HABITS + i));
                bits |= tooDark && !s.isInBed(i) ? 1 << i : 0;
            }
            return bits;
        }

        // -- doings: for each person three bits, one more than the kind that was done, 0 in bed

        static int doersOf(int doings, int kind) {
            int bits = 0;
            for (int i = 0; i < MOST_PERSONS; i++) {
                bits |= (doings >> BITS * i & 7) == kind + 1 ? 1 << i : 0;
            }
            return bits;
        }

        int doingsNow(State s) {
            int doings = 0;
            for (int i = 0; i < port.persons(); i++) {
                doings |= s.isInBed(i) ? 0 : s.get(State.HABITS + i) + 1 << BITS * i;
            }
            return doings;
        }

        int doingsOn(State s, int day) {
            return day < s.get(State.DAY) ? s.get(State.DOINGS + day) : doingsNow(s);
        }

        int governorBy(int doings) {
            int governor = NONE;
            int most = 0;
            for (int kind = 0; kind < port.get(Port.KINDS); kind++) {
                int voices = Integer.bitCount(doersOf(doings, kind));
                if (voices > most) {
                    most = voices;
                    governor = kind;
                }
            }
            return governor;
        }

        // -- days and years

        void passDay(State s) {
            int day = s.get(State.DAY);
            int light = lightAhead(s, day, s.get(State.FOG), s.upCount(port.persons()));
            s.set(State.LIGHTS + day, light);
            s.set(State.DOINGS + day, doingsNow(s));
            for (int i = 0; i < port.persons(); i++) {
                if (!s.isInBed(i)) {
                    bringIn(s, i, light);
                }
            }
            s.set(State.ECLIPSE, 0);
            s.set(State.CANDLES, 0);
            s.set(State.DAY, day + 1);
            if (day + 1 >= port.get(Port.DAYS)) {
                endYear(s);
            }
        }

        private void bringIn(State s, int person, int light) {
            int kind = s.get(State.HABITS + person);
            if (light < port.get(Port.NEEDS + kind)) {
                return;
            }
            int coins = port.get(Port.BRINGS + kind) + s.get(State.VOICES + kind);
            s.set(State.PURSES + person, Math.min(MOST_PURSE, s.get(State.PURSES + person) + coins));
            s.set(State.TREASURY, Math.min(MOST_TREASURY, s.get(State.TREASURY) + coins));
        }

        private void endYear(State s) {
            int year = s.get(State.YEAR);
            int ruler = s.darkestOver();
            turnYear(s, s.get(State.DOINGS + ruler));
            s.writeLog(year, ruler, s.get(State.LIGHTS + ruler));
        }

        /** The rest of the year goes by, apart: nothing is brought in, written down or logged. */
        void skipYear(State s) {
            // At the start of a year all its days see the same doings, whichever is the darkest.
            turnYear(s, s.get(State.DAY) == 0 ? doingsNow(s)
                    : doingsOn(s, rulerOf(s, s.upCount(port.persons()))));
        }

        /** The year is over, and what was done on its ruler is told. */
        private void turnYear(State s, int doings) {
            for (int kind = 0; kind < port.get(Port.KINDS); kind++) {
                s.set(State.VOICES + kind, Integer.bitCount(doersOf(doings, kind)));
            }
            int leader = s.placeOfMost(State.VOICES, port.get(Port.KINDS));
            int voices = s.get(State.VOICES + leader);
            s.set(State.GOVERNOR, voices == 0 ? NONE : leader);
            for (int i = 0; voices > 0 && i < port.get(Port.PERSONS); i++) {
                if (port.get(Port.OBSTINACY + i) <= voices) {
                    s.set(State.HABITS + i, leader);
                }
            }
            s.set(State.ECLIPSE, 0);
            s.set(State.CANDLES, 0);
            s.set(State.YEAR, s.get(State.YEAR) + 1);
            s.set(State.DAY, 0);
        }

        int daysThatCanPass(State s) {
            int days = port.get(Port.DAYS);
            return (MOST_YEAR - s.get(State.YEAR)) * days + days - 1 - s.get(State.DAY);
        }

        // -- acts

        /** Why such an act can't be, as a number of STATUS; NONE if it can. */
        int whyNot(State s, int act, int one, int two) {
            if (port.persons() == 0) {
                return MISSING;
            }
            int treasury = s.get(State.TREASURY);
            switch (act) {
                case PASS_ACT: return daysThatCanPass(s) > 0 ? NONE : TOO_LATE;
                case HABIT_ACT: return whyNoHabit(s, one, two);
                case BED_ACT: return port.isPerson(one) ? NONE : MISSING;
                case FOG_ACT:
                    if (one < 0 || one > MOST_FOG) {
                        return OUT_OF_BOUNDS;
                    }
                    return one == s.get(State.FOG) ? IS_SO : NONE;
                case ECLIPSE_ACT:
                    if (s.get(State.ECLIPSE) != 0) {
                        return IS_SO;
                    }
                    return treasury < ECLIPSE_PRICE ? COINS : NONE;
                case CANDLES_ACT:
                    if (one < 1 || one > MOST_LIT) {
                        return OUT_OF_BOUNDS;
                    }
                    return treasury < one || s.get(State.CANDLES) + one > MOST_CANDLES ? COINS : NONE;
                case GIVE_ACT:
                    if (one < 1 || one > MOST_GIVEN) {
                        return OUT_OF_BOUNDS;
                    }
                    return treasury + one > MOST_TREASURY ? COINS : NONE;
                default: return MISSING;
            }
        }

        private int whyNoHabit(State s, int person, int kind) {
            if (!port.isPerson(person) || !port.isKind(kind)) {
                return MISSING;
            }
            if (s.get(State.HABITS + person) == kind) {
                return IS_SO;
            }
            return s.get(State.TREASURY) < 1 ? COINS : NONE;
        }

        void carryOut(State s, int act, int one, int two) {
            switch (act) {
                case PASS_ACT:
                    passDay(s);
                    break;
                case HABIT_ACT:
                    s.set(State.HABITS + one, two);
                    spend(s, 1);
                    break;
                case BED_ACT:
                    s.set(State.BEDS, s.get(State.BEDS) ^ 1 << one);
                    break;
                case FOG_ACT:
                    s.set(State.FOG, one);
                    break;
                case ECLIPSE_ACT:
                    s.set(State.ECLIPSE, 1);
                    spend(s, ECLIPSE_PRICE);
                    break;
                case CANDLES_ACT:
                    s.set(State.CANDLES, s.get(State.CANDLES) + one);
                    spend(s, one);
                    break;
                case GIVE_ACT:
                    spend(s, -one);
                    break;
                default:
            }
        }

        private void spend(State s, int coins) {
            s.set(State.TREASURY, s.get(State.TREASURY) - coins);
        }

        boolean canStep(State s, Calendar calendar, int i) {
            return whyNot(s, calendar.told(i, 0), calendar.told(i, 1), calendar.told(i, 2)) == NONE;
        }

        // -- draws

        void setSeed(long seed) {
            chance = seed;
        }

        /** What comes ahead of a day that is drawn. */
        void drawDay(State s, int whimsy) {
            s.set(State.FOG, draw(10));
            if (draw(10) < whimsy) {
                int person = draw(port.persons());
                s.set(State.HABITS + person, draw(port.kinds()));
            }
            if (draw(100) < 3) {
                s.set(State.ECLIPSE, 1);
            }
        }

        private int draw(int many) {
            chance = chance * 6364136223846793005L + 1442695040888963407L;
            return many <= 0 ? 0 : (int) ((chance >>> 33) % many);
        }
    }

    /** The latest states ahead of acts, to go back to one by one. */
    private static final class History {
        private static final int MOST = 40;

        private final State[] states = new State[MOST];
        private int size = 0;
        private int next = 0;

        History() {
            for (int i = 0; i < states.length; i++) {
                states[i] = new State();
            }
        }

        int size() {
            return size;
        }

        void clear() {
            size = 0;
        }

        void keep(State s) {
            State kept = stateAt(next);
            if (kept != null) {
                kept.copy(s);
                next = (next + 1) % MOST;
                size = Math.min(MOST, size + 1);
            }
        }

        boolean restores(State s) {
            int last = (next + MOST - 1) % MOST;
            State kept = stateAt(last);
            if (size == 0 || kept == null) {
                return false;
            }
            s.copy(kept);
            next = last;
            size--;
            return true;
        }

        private State stateAt(int i) {
            return i >= 0 && i < states.length ? states[i] : null;
        }
    }

    /** What will be or would be from a state on; the state itself stays as it is. */
    private static final class Outlook {
        static final int MOST_DRAWN_DAYS = 8;

        private static final int PARTS = 1000000000;
        private static final int PRIZE = 5;

        private final Port port;
        private final Course course;
        private final State apart = new State();
        private final Row lights = new Row(MOST_DAYS);
        private final Row foggyLights = new Row(MOST_DAYS);
        private final Row habitsBehind = new Row(MOST_AHEAD + 1);
        private final Row voicesBehind = new Row(MOST_AHEAD + 1);
        private final Row rulers = new Row(MOST_PERSONS + 1);
        /* Of a game: what each of the two gains by each kind, who governs by each pair of kinds. */
        private final Row gains = new Row(2 * MOST_KINDS);
        private final Row governors = new Row(MOST_KINDS * MOST_KINDS);

        Outlook(Port port, Course course) {
            this.port = port;
            this.course = course;
        }

        int runOf(State now, Calendar calendar, int what) {
            if (calendar == null) {
                return HIDDEN;
            }
            apart.copy(now);
            int done = 0;
            while (done < calendar.steps() && course.canStep(apart, calendar, done)) {
                course.carryOut(apart, calendar.told(done, 0), calendar.told(done, 1), calendar.told(done, 2));
                done++;
            }
            if (what == 1) {
                return apart.get(State.TREASURY) - now.get(State.TREASURY);
            }
            return done == calendar.steps() ? NONE : done;
        }

        int maybeDarkest(State now, int e) {
            int least = MOST_LIGHT;
            for (int day = 0; day < port.get(Port.DAYS); day++) {
                lights.set(day, course.lightOf(now, day));
                least = Math.min(least, lights.get(day));
            }
            int bits = 0;
            for (int day = 0; day < port.get(Port.DAYS); day++) {
                bits |= lights.get(day) <= least + 2 * e ? 1 << day : 0;
            }
            return bits;
        }

        int governorBehind(State now, int n) {
            apart.copy(now);
            for (int i = 0; i < n; i++) {
                course.skipYear(apart);
            }
            return apart.get(State.GOVERNOR);
        }

        int swayed(State now) {
            apart.copy(now);
            course.skipYear(apart);
            int bits = 0;
            for (int i = 0; i < port.persons(); i++) {
                bits |= apart.get(State.HABITS + i) != now.get(State.HABITS + i) ? 1 << i : 0;
            }
            return bits;
        }

        int comingRound(State now, int what) {
            apart.copy(now);
            for (int end = 1; end <= MOST_AHEAD; end++) {
                course.skipYear(apart);
                habitsBehind.set(end, packed(State.HABITS, port.persons()));
                voicesBehind.set(end, packed(State.VOICES, port.kinds()));
                for (int earlier = 1; earlier < end; earlier++) {
                    if (habitsBehind.get(earlier) == habitsBehind.get(end)
                            && voicesBehind.get(earlier) == voicesBehind.get(end)) {
                        return what == 0 ? earlier : end - earlier;
                    }
                }
            }
            return NONE;
        }

        /** So many numbers of 0 to 7 in one. */
        private int packed(int first, int count) {
            int all = 0;
            for (int i = 0; i < count; i++) {
                all = all << 3 | apart.get(first + i);
            }
            return all;
        }

        int fewestSwings(State now, int kind) {
            int ruler = course.rulerOf(now, now.upCount(port.persons()));
            int fewest = NONE;
            for (int bits = 0; bits < 1 << port.persons(); bits++) {
                if (fewest == NONE || Integer.bitCount(bits) < Integer.bitCount(fewest)) {
                    apart.copy(now);
                    for (int i = 0; i < port.persons(); i++) {
                        if (hasBit(bits, i)) {
                            apart.set(State.HABITS + i, kind);
                        }
                    }
                    fewest = course.governorBy(course.doingsOn(apart, ruler)) == kind ? bits : fewest;
                }
            }
            return fewest;
        }

        int fewestInBed(State now, int kind) {
            int up = now.upBits(port.persons());
            for (int count = 0; count <= Integer.bitCount(up); count++) {
                rulers.set(count, course.rulerOf(now, count));
            }
            int fewest = NONE;
            for (int bits = 0; bits <= up; bits++) {
                boolean fewer = fewest == NONE || Integer.bitCount(bits) < Integer.bitCount(fewest);
                if (fewer && (bits & ~up) == 0) {
                    apart.copy(now);
                    apart.set(State.BEDS, now.get(State.BEDS) | bits);
                    int ruler = rulers.get(Integer.bitCount(up & ~bits));
                    fewest = course.governorBy(course.doingsOn(apart, ruler)) == kind ? bits : fewest;
                }
            }
            return fewest;
        }

        int treasuryBehind(State now, int n) {
            apart.copy(now);
            for (int i = 0; i < n; i++) {
                course.passDay(apart);
            }
            return apart.get(State.TREASURY);
        }

        // -- games

        int gameOf(State now, int one, int other, int x, int y, int what) {
            layOut(now, one, other);
            return hasThen(x, y, what);
        }

        int restsOf(State now, int one, int other, int i) {
            layOut(now, one, other);
            int found = 0;
            for (int x = 0; x < port.kinds(); x++) {
                for (int y = 0; y < port.kinds(); y++) {
                    if (isRest(x, y)) {
                        if (found == i) {
                            return 10 * x + y;
                        }
                        found++;
                    }
                }
            }
            return i == NONE ? found : NONE;
        }

        private boolean isRest(int x, int y) {
            for (int kind = 0; kind < port.kinds(); kind++) {
                if (hasThen(kind, y, 0) > hasThen(x, y, 0) || hasThen(x, kind, 1) > hasThen(x, y, 1)) {
                    return false;
                }
            }
            return true;
        }

        private int hasThen(int x, int y, int what) {
            int own = what == 0 ? x : y;
            int governor = governors.get(x * MOST_KINDS + y);
            return gains.get(what * MOST_KINDS + own) + (governor == own ? PRIZE : 0);
        }

        private void layOut(State now, int one, int other) {
            for (int day = now.get(State.DAY); day < port.get(Port.DAYS); day++) {
                lights.set(day, course.lightOf(now, day));
            }
            int ruler = course.rulerOf(now, now.upCount(port.persons()));
            apart.copy(now);
            for (int x = 0; x < port.kinds(); x++) {
                gains.set(x, gainOf(now, one, x));
                gains.set(MOST_KINDS + x, gainOf(now, other, x));
                apart.set(State.HABITS + one, x);
                for (int y = 0; y < port.kinds(); y++) {
                    apart.set(State.HABITS + other, y);
                    governors.set(x * MOST_KINDS + y, course.governorBy(course.doingsOn(apart, ruler)));
                }
            }
        }

        private int gainOf(State now, int person, int kind) {
            int coins = port.get(Port.BRINGS + kind) + now.get(State.VOICES + kind);
            int gain = 0;
            for (int day = now.get(State.DAY); day < port.get(Port.DAYS); day++) {
                gain += lights.get(day) >= port.get(Port.NEEDS + kind) ? coins : 0;
            }
            int purse = now.get(State.PURSES + person);
            return Math.min(MOST_PURSE, purse + gain) - purse;
        }

        // -- odds

        int oddsOf(State now, int day, int chance) {
            int first = now.get(State.DAY);
            int left = port.get(Port.DAYS) - first;
            int up = now.upCount(port.persons());
            for (int i = 0; i < left && i < MOST_DRAWN_DAYS; i++) {
                lights.set(i, course.lightAhead(now, first + i, 0, up));
                foggyLights.set(i, course.lightAhead(now, first + i, MOST_FOG, up));
            }
            int sum = 0;
            for (int fogs = 0; left <= MOST_DRAWN_DAYS && fogs < 1 << left; fogs++) {
                sum += rulerBy(now, fogs, left) == day ? partOf(fogs, left, chance) : 0;
            }
            return sum;
        }

        private int rulerBy(State now, int fogs, int left) {
            int ruler = now.darkestOver();
            int least = ruler == NONE ? MOST_LIGHT + 1 : now.get(State.LIGHTS + ruler);
            for (int i = 0; i < left; i++) {
                int light = hasBit(fogs, i) ? foggyLights.get(i) : lights.get(i);
                if (light < least) {
                    least = light;
                    ruler = now.get(State.DAY) + i;
                }
            }
            return ruler;
        }

        private static int partOf(int fogs, int left, int chance) {
            long part = PARTS;
            for (int i = 0; i < left; i++) {
                long foggy = part * chance / 100;
                part = hasBit(fogs, i) ? foggy : part - foggy;
            }
            return (int) part;
        }
    }

    /** What was seen of the treasury as told, and which habits fit it. */
    private static final class Witness {
        private static final int MOST = 10;
        private static final int WIDTH = MOST_AHEAD + 1;

        private final Port port;
        private final Course course;
        private final State apart = new State();
        private final Row days = new Row(MOST);
        private final Row marks = new Row(MOST);
        private final Row mores = new Row(MOST);
        private final Row treasuries = new Row(MOST_KINDS * WIDTH);
        private int size = 0;

        Witness(Port port, Course course) {
            this.port = port;
            this.course = course;
        }

        int size() {
            return size;
        }

        boolean isFull() {
            return size >= MOST;
        }

        void forget() {
            size = 0;
        }

        void note(int day, int mark, boolean more) {
            days.set(size, day);
            marks.set(size, mark);
            mores.set(size, more ? 1 : 0);
            size++;
        }

        int possibleHabits(int person) {
            int last = 0;
            for (int i = 0; i < size; i++) {
                last = Math.max(last, days.get(i));
            }
            return followAll(person, last);
        }

        int bestQuestion(int person) {
            int possible = followAll(person, MOST_AHEAD);
            int best = NONE;
            int fewest = MOST_KINDS + 1;
            for (int day = 1; day <= MOST_AHEAD; day++) {
                int most = mostAlike(possible, day);
                if (most > 0 && most < fewest) {
                    fewest = most;
                    best = day;
                }
            }
            return best;
        }

        private int mostAlike(int possible, int day) {
            int most = 0;
            for (int kind = 0; kind < MOST_KINDS; kind++) {
                int alike = 0;
                for (int other = 0; hasBit(possible, kind) && other < MOST_KINDS; other++) {
                    boolean agrees = treasuryOf(kind, day) == treasuryOf(other, day);
                    alike += hasBit(possible, other) && agrees ? 1 : 0;
                }
                most = Math.max(most, alike);
            }
            return most;
        }

        /** Writes down the treasuries by each habit that the person may have; answers those that fit. */
        private int followAll(int person, int last) {
            int bits = 0;
            for (int kind = 0; kind < port.kinds(); kind++) {
                apart.begin(port);
                apart.set(State.HABITS + person, kind);
                for (int day = 1; day <= last; day++) {
                    course.passDay(apart);
                    treasuries.set(kind * WIDTH + day, apart.get(State.TREASURY));
                }
                bits |= fits(kind) ? 1 << kind : 0;
            }
            return bits;
        }

        private boolean fits(int kind) {
            for (int i = 0; i < size; i++) {
                boolean reached = treasuryOf(kind, days.get(i)) >= marks.get(i);
                if (reached != (mores.get(i) == 1)) {
                    return false;
                }
            }
            return true;
        }

        private int treasuryOf(int kind, int day) {
            return treasuries.get(kind * WIDTH + day);
        }
    }
}
