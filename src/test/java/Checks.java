import java.util.NoSuchElementException;

/** What the tests of single sentences have in common: telling texts, and holding answers against what is due. */
abstract class Checks {
    static final int NONE = -1;
    static final int HIDDEN = -1000000;
    static final int SEAPORT = 0;
    static final int LAW = 1;
    static final int CALENDAR = 2;
    static final int MOST_BYTES = 240;

    /* What is being tested, told with what fails. */
    static String at = "";

    private static int passed = 0;
    private static int failed = 0;

    static void due(String what, long got, long want) {
        if (got == want) {
            passed++;
        } else {
            failed++;
            System.out.println(at + ": " + what + " answered " + got + ", due is " + want);
        }
    }

    static void due(String what, boolean got, boolean want) {
        due(what, got ? 1 : 0, want ? 1 : 0);
    }

    static void due(String what, int[] got, int... want) {
        due(what + ", how many", got.length, want.length);
        for (int i = 0; i < got.length && i < want.length; i++) {
            due(what + ", " + i, got[i], want[i]);
        }
    }

    static void finish(String name) {
        System.out.println(name + ": " + passed + " passed, " + failed + " failed");
        System.exit(failed == 0 ? 0 : 1);
    }

    // ---- texts

    static void fill(DarkestDay x, String text) {
        x.end(0);
        for (int i = 0; i < text.length(); i += 20) {
            int[] words = new int[5];
            for (int j = i; j < text.length() && j < i + 20; j++) {
                words[(j - i) / 4] |= text.charAt(j) << 24 - 8 * (j % 4);
            }
            x.feed(words[0], words[1], words[2], words[3], words[4]);
        }
    }

    static int tell(DarkestDay x, int sort, String text) {
        fill(x, text);
        return x.text(sort);
    }

    static DarkestDay port(String text) {
        DarkestDay x = new DarkestDay();
        due("text of " + text, tell(x, SEAPORT, text) >= 2, true);
        return x;
    }

    /** A seaport with a law that holds. */
    static DarkestDay port(String text, String law) {
        DarkestDay x = port(text);
        due("the law " + law, tell(x, LAW, law), 0);
        x.law(0);
        return x;
    }

    static void fault(int sort, String text, int want) {
        DarkestDay x = new DarkestDay();
        fill(x, text);
        due("the fault of " + text, x.fault(sort), want);
        due("the bytes of " + text, x.count(5), text.length());
        int number = sort == SEAPORT ? x.count(0) : 0;
        due("text of " + text, x.text(sort) == NONE, want != NONE);
        due("the bytes behind " + text, x.count(5), want == NONE ? 0 : text.length());
        due("persons behind " + text, x.count(0) == number, sort != SEAPORT || want != NONE);
    }

    /** The light of a law in a year of six days, fog 3, two of three up, on day 4. */
    static int worth(String law) {
        return port("sd6f3;kv2;p;p;pb1", law).light(4);
    }

    static String times(int n, String piece) {
        return piece.repeat(n);
    }

    /** So many pieces with ; between. */
    static String listOf(int n, String piece) {
        return piece + times(n - 1, ";" + piece);
    }

    // ---- calls

    static void throwsIt(DarkestDay x, int person, int what) {
        boolean thrown = false;
        try {
            x.person(person, what);
        } catch (NoSuchElementException e) {
            thrown = true;
        }
        due("person(" + person + ", " + what + ") throws", thrown, true);
    }

    static int[] statuses(DarkestDay x) {
        int[] found = new int[5];
        for (int i = 0; i < found.length; i++) {
            found[i] = x.status(i);
        }
        return found;
    }

    static void statuses(DarkestDay x, int missing, int bounds, int so, int coins, int late) {
        due("status", statuses(x), missing, bounds, so, coins, late);
    }

    static void passes(DarkestDay x, int days) {
        for (int i = 0; i < days; i++) {
            x.pass();
        }
    }

    /** Days by draws without a whim, so that only fog and eclipses come over them. */
    static void goes(DarkestDay x, int days) {
        x.whim(0);
        for (int left = days; left > 0; left -= 60) {
            x.years(Math.min(60, left), left);
        }
    }
}
