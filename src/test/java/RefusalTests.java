import java.lang.reflect.InvocationTargetException;
import java.lang.reflect.Method;
import java.util.ArrayList;
import java.util.Arrays;
import java.util.List;

/**
 * What is refused answers as told and changes nothing but STATUS: in each of some scenes each call is given what it
 * refuses, and the object is held against a twin to which nothing of that was said.
 */
public final class RefusalTests extends Checks {
    private static final int NO_STATUS = -1;
    private static final int MISSING = 0;
    private static final int BOUNDS = 1;
    private static final int IS_SO = 2;
    private static final int COINS = 3;
    private static final int TOO_LATE = 4;
    private static final int THROWS = -123456789;
    private static final int[] NEVER = {Integer.MIN_VALUE, -257, -65536, 1 << 30, Integer.MAX_VALUE};

    /* The scenes: what stands there. */
    private static final int NO_SEAPORT = 0;
    private static final int NEW = 1;
    private static final int BUSY = 2;
    private static final int FULL = 3;
    private static final int LAST_DAY = 4;
    private static final String[] SCENES = {"without a seaport", "new", "busy", "full", "at the last day"};

    private static int scene = 0;

    public static void main(String[] args) throws Exception {
        for (scene = 0; scene < SCENES.length; scene++) {
            at = SCENES[scene];
            DarkestDay x = set();
            due("asking changes nothing", Arrays.equals(look(x), look(x)), true);
            numbers(x.count(0), x.count(1), x.count(2), x.count(8));
            texts();
            switch (scene) {
                case NO_SEAPORT -> withoutSeaport();
                case NEW -> onNew();
                case BUSY -> onBusy();
                case FULL -> onFull();
                default -> onLastDay();
            }
        }
        finish("RefusalTests");
    }

    // ---- the scenes

    private static DarkestDay set() {
        DarkestDay x = new DarkestDay();
        tell(x, CALENDAR, "d;c1;h11;e");
        switch (scene) {
            case NO_SEAPORT -> fill(x, "k;p;p x");
            case NEW -> {
                tell(x, SEAPORT, "sd9t5;k;kv5n6;p;ph1o3;p");
                fill(x, "y:1;d");
            }
            case BUSY -> setBusy(x);
            case FULL -> setFull(x);
            default -> {
                tell(x, SEAPORT, "sd2t0;kv0n30;kv0n30;p;p;pb1");
                for (int i = 0; i < 33; i++) {
                    x.years(60, i);
                }
                passes(x, 19);
                x.bed(0);
            }
        }
        return x;
    }

    private static void setBusy(DarkestDay x) {
        tell(x, SEAPORT, "sd4t99f2;kv3n4;kv5n6;ph0o1;ph0o5;ph1o2;ph1o0b1");
        tell(x, LAW, "y:i*2+f;y:3");
        tell(x, LAW, "y:i=2?u;y:7+r-f");
        x.law(1);
        passes(x, 5);
        x.seen(3, 140, true);
        x.image();
        x.fog(3);
        x.habit(0, 1);
        x.pass();
        x.bed(1);
        x.eclipse();
        x.candles(4);
        x.whim(7);
        x.give(1);
        x.undo();
        fill(x, "sd4;k;p");
    }

    private static void setFull(DarkestDay x) {
        tell(x, SEAPORT, "sd2t99;kv9n0;k;k;k;k;k;po9;po9;po9;po9;po9;po9");
        for (int i = 0; i < 4; i++) {
            tell(x, LAW, "y:" + (i + 5));
            tell(x, CALENDAR, "d;f" + i);
        }
        x.law(3);
        for (int i = 0; i < 15; i++) {
            x.years(60, i);
        }
        for (int i = 0; i < 10; i++) {
            x.seen(i + 1, 0, false);
        }
        passes(x, 61);
        x.image();
        x.eclipse();
        x.candles(9);
        x.candles(9);
        x.candles(2);
        x.give(30);
        fill(x, times(240, " "));
    }

    // ---- what can be seen of an object

    private static int[] look(DarkestDay x) {
        List<Integer> seen = new ArrayList<>();
        for (int i = 0; i <= 16; i++) {
            seen.add(x.count(i));
        }
        for (int i = 0; i <= 8; i++) {
            seen.add(x.all(i));
        }
        for (int p = 0; p < x.count(0); p++) {
            seen.addAll(List.of(x.person(p, 0), x.person(p, 1), x.person(p, 2), x.person(p, 3),
                    x.habits(p, NONE), x.ask(p), x.game(0, p, 1, 0, 0), x.rests(p, 0, NONE)));
        }
        for (int k = 0; k < x.count(1); k++) {
            seen.addAll(List.of(x.kind(k, 0), x.kind(k, 1), x.kind(k, 2), x.kind(k, 3), x.swings(k), x.bedding(k)));
        }
        for (int day = 0; day < x.count(2); day++) {
            seen.addAll(List.of(x.light(day), x.did(day, 0), x.did(day, 1), x.odds(day, 37)));
        }
        for (int i : new int[] {0, 1, 59}) {
            seen.addAll(List.of(x.log(i, 0), x.log(i, 1), x.log(i, 2)));
        }
        for (int c = 0; c < 4; c++) {
            seen.addAll(List.of(x.run(c, 0), x.run(c, 1), x.step(c, 0, 0), x.step(c, 1, 1)));
        }
        for (int i = 0; i <= 2; i++) {
            seen.add(x.fault(i));
        }
        seen.addAll(List.of(x.coming(0), x.coming(1), x.may(1), x.governs(3), x.round(0), x.coins(9), x.shares(0, 999)));
        return seen.stream().mapToInt(i -> i).toArray();
    }

    /** What could not be seen yet: what is behind undoing, the image, the whim, what the law brings. */
    private static int[] lookBehind(DarkestDay x) {
        List<Integer> seen = new ArrayList<>();
        for (int i = 0; i < 41; i++) {
            seen.add(x.undo());
            seen.add(x.count(9) * 10 + x.count(8));
        }
        seen.add(x.years(6, 20261119));
        seen.add(x.count(9) + x.count(10) * 1000 + x.count(7) * 10000);
        seen.add(x.back());
        seen.add(x.count(9) + x.count(12) * 1000 + x.count(7) * 100000);
        seen.add(x.perform(0));
        seen.add(x.text(SEAPORT));
        seen.add(x.text(CALENDAR));
        for (int i = 0; i < 5; i++) {
            seen.add(x.law(i) ? x.light(0) : -5);
        }
        return seen.stream().mapToInt(i -> i).toArray();
    }

    // ---- a refused call

    private static Method method(String name) {
        for (Method m : DarkestDay.class.getMethods()) {
            if (m.getName().equals(name) && m.getDeclaringClass() == DarkestDay.class) {
                return m;
            }
        }
        throw new IllegalArgumentException(name);
    }

    private static int answer(DarkestDay x, String name, Object... values) throws Exception {
        try {
            Object got = method(name).invoke(x, values);
            return got instanceof Boolean fine ? (fine ? 1 : 0) : (Integer) got;
        } catch (InvocationTargetException e) {
            due("throws " + e.getCause(), e.getCause() instanceof java.util.NoSuchElementException, true);
            return THROWS;
        }
    }

    private static void refused(int want, int status, String name, Object... values) throws Exception {
        DarkestDay x = set();
        DarkestDay twin = set();
        String told = name + Arrays.toString(values);
        int[] counted = statuses(twin);
        int reason = scene == NO_SEAPORT && status != NO_STATUS ? MISSING : status;
        if (reason != NO_STATUS) {
            counted[reason]++;
        }
        due(told, answer(x, name, values), want);
        due("status behind " + told, statuses(x), counted);
        due("all else behind " + told, Arrays.equals(look(x), look(twin)), true);
        due("what is behind " + told, Arrays.equals(lookBehind(x), lookBehind(twin)), true);
        due("status at the end of " + told, statuses(x), counted);
    }

    /** A call with all its numbers in bounds but one, which is each of these (and some that never fit). */
    private static void wrong(int want, int status, String name, Object[] fine, int place, int... bad) throws Exception {
        int[] all = Arrays.copyOf(bad, bad.length + NEVER.length);
        System.arraycopy(NEVER, 0, all, bad.length, NEVER.length);
        for (int n : all) {
            Object[] values = fine.clone();
            values[place] = n;
            refused(want, status, name, values);
        }
    }

    private static Object[] of(Object... values) {
        return values;
    }

    // ---- numbers out of bounds, in every scene

    private static void numbers(int persons, int kinds, int days, int day) throws Exception {
        wrong(0, NO_STATUS, "end", of(0), 0, -1, 241);
        wrong(-2, NO_STATUS, "fault", of(0), 0, -1, 3);
        wrong(NONE, NO_STATUS, "text", of(0), 0, -1, 3);
        wrong(HIDDEN, NO_STATUS, "kind", of(0, 0), 0, -1, kinds);
        wrong(HIDDEN, NO_STATUS, "kind", of(0, 0), 1, -1, 4);
        wrong(THROWS, NO_STATUS, "person", of(0, 0), 0, -1, persons);
        wrong(THROWS, NO_STATUS, "person", of(0, 0), 1, -1, 4);
        wrong(0, NO_STATUS, "law", of(0), 0, -2, 4);
        wrong(0, NO_STATUS, "whim", of(0), 0, -1, 10);
        wrong(NONE, MISSING, "habit", of(0, 1), 0, -1, persons);
        wrong(NONE, MISSING, "habit", of(0, 1), 1, -1, kinds);
        wrong(NONE, MISSING, "bed", of(0), 0, -1, persons);
        wrong(NONE, BOUNDS, "fog", of(0), 0, -1, 10);
        wrong(NONE, BOUNDS, "candles", of(0), 0, -1, 0, 10);
        wrong(NONE, BOUNDS, "give", of(0), 0, -1, 0, 51);
        wrong(NONE, NO_STATUS, "years", of(1, 1L), 0, -1, 0, 61);
        wrong(NONE, NO_STATUS, "status", of(0), 0, -1, 5);
        wrong(HIDDEN, NO_STATUS, "log", of(0, 0), 0, -1, 60);
        wrong(HIDDEN, NO_STATUS, "log", of(0, 0), 1, -1, 3);
        wrong(HIDDEN, NO_STATUS, "step", of(0, 0, 0), 0, -1, 4);
        wrong(HIDDEN, NO_STATUS, "step", of(0, 0, 0), 1, -1, 4);
        wrong(HIDDEN, NO_STATUS, "step", of(0, 0, 0), 2, -1, 3);
        wrong(HIDDEN, NO_STATUS, "run", of(0, 0), 0, -1, 4);
        wrong(HIDDEN, NO_STATUS, "run", of(0, 0), 1, -1, 2);
        wrong(NONE, NO_STATUS, "perform", of(0), 0, -1, 4);
        wrong(NONE, NO_STATUS, "light", of(0), 0, -1, days);
        wrong(NONE, NO_STATUS, "coming", of(0), 0, -1, 2);
        wrong(NONE, NO_STATUS, "may", of(0), 0, -1, 21);
        wrong(HIDDEN, NO_STATUS, "governs", of(0), 0, -1, 61);
        wrong(NONE, NO_STATUS, "round", of(0), 0, -1, 2);
        wrong(NONE, NO_STATUS, "swings", of(0), 0, -1, kinds);
        wrong(NONE, NO_STATUS, "bedding", of(0), 0, -1, kinds);
        wrong(NONE, NO_STATUS, "coins", of(0), 0, -1, 100);
        wrong(NONE, NO_STATUS, "seen", of(1, 0, true), 0, -1, 0, 61);
        wrong(NONE, NO_STATUS, "seen", of(1, 0, true), 1, -1, 1000);
        wrong(NONE, NO_STATUS, "habits", of(0, 0), 0, -1, persons);
        wrong(NONE, NO_STATUS, "habits", of(0, 0), 1, -2, 6);
        wrong(NONE, NO_STATUS, "ask", of(0), 0, -1, persons);
        wrong(HIDDEN, NO_STATUS, "game", of(0, 1, 0, 0, 0), 0, -1, persons);
        wrong(HIDDEN, NO_STATUS, "game", of(0, 2, 0, 0, 0), 1, -1, 0, persons);
        wrong(HIDDEN, NO_STATUS, "game", of(0, 2, 0, 0, 0), 2, -1, kinds);
        wrong(HIDDEN, NO_STATUS, "game", of(0, 2, 0, 0, 0), 3, -1, kinds);
        wrong(HIDDEN, NO_STATUS, "game", of(0, 2, 0, 0, 0), 4, -1, 2);
        wrong(NONE, NO_STATUS, "rests", of(0, 2, NONE), 0, -1, 2, persons);
        wrong(NONE, NO_STATUS, "rests", of(0, 2, NONE), 1, -1, 0, persons);
        wrong(NONE, NO_STATUS, "rests", of(0, 2, NONE), 2, -2, 36);
        wrong(NONE, NO_STATUS, "odds", of(0, 50), 0, -1, days);
        wrong(NONE, NO_STATUS, "odds", of(0, 50), 1, -1, 101);
        wrong(NONE, NO_STATUS, "shares", of(0, 1), 0, -1, persons);
        wrong(NONE, NO_STATUS, "shares", of(0, 1), 1, -1, 1000);
        wrong(NONE, NO_STATUS, "did", of(0, 0), 0, -1, day, days);
        wrong(NONE, NO_STATUS, "did", of(0, 0), 1, -1, kinds);
        wrong(HIDDEN, NO_STATUS, "all", of(0), 0, -1, 9);
        wrong(HIDDEN, NO_STATUS, "count", of(0), 0, -1, 17);
    }

    /** Texts with a fault, in every scene: the tapes hold no seaport. */
    private static void texts() throws Exception {
        refused(NONE, NO_STATUS, "text", SEAPORT);
        refused(NONE, NO_STATUS, "text", LAW);
        refused(NONE, NO_STATUS, "text", CALENDAR);
        refused(0, NO_STATUS, "end", set().count(5) + 1);
        refused(0, NO_STATUS, "whim", set().count(13));
    }

    // ---- what is refused as it is

    private static void withoutSeaport() throws Exception {
        refused(NONE, MISSING, "pass");
        refused(NONE, MISSING, "habit", 0, 0);
        refused(NONE, MISSING, "bed", 0);
        refused(NONE, MISSING, "fog", 0);
        refused(NONE, MISSING, "fog", 5);
        refused(NONE, MISSING, "eclipse");
        refused(NONE, MISSING, "candles", 1);
        refused(NONE, MISSING, "give", 1);
        refused(NONE, NO_STATUS, "years", 1, 1L);
        refused(NONE, NO_STATUS, "undo");
        refused(HIDDEN, NO_STATUS, "log", 0, 0);
        refused(HIDDEN, NO_STATUS, "run", 0, 0);
        refused(HIDDEN, NO_STATUS, "run", 0, 1);
        refused(NONE, NO_STATUS, "perform", 0);
        for (String name : new String[] {"light", "coming", "may", "round", "swings", "bedding", "coins", "ask"}) {
            refused(NONE, NO_STATUS, name, 0);
        }
        refused(HIDDEN, NO_STATUS, "governs", 0);
        refused(NONE, NO_STATUS, "seen", 1, 0, true);
        refused(NONE, NO_STATUS, "habits", 0, NONE);
        refused(HIDDEN, NO_STATUS, "game", 0, 1, 0, 0, 0);
        refused(NONE, NO_STATUS, "rests", 0, 1, NONE);
        refused(NONE, NO_STATUS, "odds", 0, 0);
        refused(NONE, NO_STATUS, "shares", 0, 0);
        refused(NONE, NO_STATUS, "did", 0, 0);
        for (int i = 0; i <= 8; i++) {
            refused(HIDDEN, NO_STATUS, "all", i);
        }
        refused(NONE, NO_STATUS, "image");
        refused(NONE, NO_STATUS, "back");
        refused(THROWS, NO_STATUS, "person", 0, 0);
        refused(HIDDEN, NO_STATUS, "kind", 0, 0);
    }

    private static void onNew() throws Exception {
        refused(NONE, IS_SO, "fog", 0);
        refused(NONE, IS_SO, "habit", 0, 0);
        refused(NONE, COINS, "eclipse");
        refused(NONE, COINS, "candles", 6);
        refused(NONE, NO_STATUS, "undo");
        refused(NONE, NO_STATUS, "back");
        refused(NONE, NO_STATUS, "odds", 0, 50);
        refused(NONE, NO_STATUS, "did", 0, 0);
        refused(HIDDEN, NO_STATUS, "log", 0, 0);
        refused(0, NO_STATUS, "law", 0);
        refused(HIDDEN, NO_STATUS, "game", 1, 1, 0, 0, 0);
        refused(HIDDEN, NO_STATUS, "step", 1, 0, 0);
        refused(NONE, NO_STATUS, "perform", 1);
        refused(HIDDEN, NO_STATUS, "run", 1, 0);
    }

    private static void onBusy() throws Exception {
        refused(NONE, IS_SO, "eclipse");
        refused(NONE, IS_SO, "fog", 3);
        refused(NONE, IS_SO, "habit", 0, 1);
        refused(HIDDEN, NO_STATUS, "game", 0, 1, 0, 0, 0);
        refused(HIDDEN, NO_STATUS, "game", 1, 0, 0, 0, 0);
        refused(NONE, NO_STATUS, "rests", 3, 0, NONE);
        refused(HIDDEN, NO_STATUS, "log", 1, 0);
        refused(0, NO_STATUS, "law", 2);
        refused(NONE, NO_STATUS, "did", 2, 0);
    }

    private static void onFull() throws Exception {
        due("the treasury", set().count(9), 999);
        refused(NONE, COINS, "give", 1);
        refused(NONE, COINS, "give", 50);
        refused(NONE, BOUNDS, "give", 51);
        refused(NONE, COINS, "candles", 1);
        refused(NONE, COINS, "candles", 9);
        refused(NONE, IS_SO, "eclipse");
        refused(NONE, NO_STATUS, "seen", 1, 1, true);
        refused(NONE, NO_STATUS, "feed", 1, 0, 0, 0, 0);
        refused(NONE, NO_STATUS, "feed", 0, 0, 0, 0, 1);
        refused(NONE, NO_STATUS, "feed", -1, -1, -1, -1, -1);
        refused(NONE, NO_STATUS, "ask", 0);
        refused(HIDDEN, NO_STATUS, "log", 60, 0);
    }

    private static void onLastDay() throws Exception {
        due("the year", set().count(7), 999);
        due("the day", set().count(8), 1);
        refused(NONE, TOO_LATE, "pass");
        refused(NONE, NO_STATUS, "years", 1, 1L);
        refused(NONE, NO_STATUS, "years", 60, 1L);
        refused(NONE, COINS, "habit", 0, 1 - set().person(0, 0));
        refused(NONE, IS_SO, "habit", 0, set().person(0, 0));
        refused(NONE, COINS, "eclipse");
        refused(NONE, COINS, "candles", 1);
        refused(NONE, BOUNDS, "candles", 0);
        refused(HIDDEN, NO_STATUS, "game", 0, 1, 0, 0, 0);
        refused(NONE, NO_STATUS, "back");
        refused(0, NO_STATUS, "perform", 0);
    }
}
