import java.util.function.IntPredicate;

/** The edges that the document names for days, acts and questions, sentence by sentence. */
public final class BoundaryTests extends Checks {
    private static final String SIX = "sd2;k;k;k;k;k;k;p;p;p;p;p;p";

    public static void main(String[] args) {
        lawNumbersHeld();
        lawDivisions();
        lawTruths();
        lightsHeld();
        halfOfAllDays();
        letters();
        needs();
        pursesAndTreasury();
        rulers();
        governorsAndObstinacy();
        logOfSixtyYears();
        theLastYear();
        actsByHand();
        candlesAndCoins();
        fortyActs();
        ranges();
        things();
        calendarsRun();
        daysThatMay();
        yearsAhead();
        swingsAndBeds();
        seenAndAsked();
        games();
        odds();
        shares();
        didAndAll();
        draws();
        images();
        finish("BoundaryTests");
    }

    // ---- laws

    private static void lawNumbersHeld() {
        at = "behind each sign numbers are within -1,000,000 .. 1,000,000";
        // 999,000 and 950 less leave 50 of a million.
        String top = "-999*1000-950";
        String bottom = "+999*1000+1050";
        due("a million by *", worth("y:1000*1000" + top), 50);
        due("one less by *", worth("y:999*1001" + top), 49);
        due("more by *", worth("y:1001*1000" + top), 50);
        due("far more by *", worth("y:9999*9999*9999" + top), 50);
        due("a million times a million", worth("y:[1000*1000]*[1000*1000]" + top), 50);
        due("a million by +", worth("y:9999*100+99+1" + top), 50);
        due("one less by +", worth("y:9999*100+99" + top), 49);
        due("more by +", worth("y:9999*100+99+2" + top), 50);
        due("two millions", worth("y:1000*1000+1000*1000" + top), 50);
        due("a million by -", worth("y:9999*100+99-[0-1]" + top), 50);
        due("more by -", worth("y:9999*100+99-[0-2]" + top), 50);
        due("a million below 0 by *", worth("y:[0-1000]*1000" + bottom), 50);
        due("one more by *", worth("y:[0-999]*1001" + bottom), 51);
        due("less by *", worth("y:[0-1001]*1000" + bottom), 50);
        due("far less by *", worth("y:[0-9999]*9999*9999" + bottom), 50);
        due("a million below 0 by -", worth("y:0-9999*100-99-1" + bottom), 50);
        due("one more by -", worth("y:0-9999*100-99" + bottom), 51);
        due("less by -", worth("y:0-9999*100-99-2" + bottom), 50);
        due("less by +", worth("y:0-9999*100-99+[0-2]" + bottom), 50);
        due("two millions below 0", worth("y:0-1000*1000-1000*1000" + bottom), 50);
        due("behind each sign, not at the end", worth("y:1001*1000-1000*1000+7"), 7);
        due("in a CONDITION, too", worth("y:1001*1000=1000*1000?8;y:9"), 8);
        due("in a CONDITION, too", worth("y:1000*1000>9999*100+99?8;y:9"), 8);
    }

    private static void lawDivisions() {
        at = "/ cuts towards 0, by 0 gives 0";
        due("7/2", worth("y:7/2"), 3);
        due("-7/2", worth("y:[0-7]/2+10"), 7);
        due("7/-2", worth("y:7/[0-2]+10"), 7);
        due("-7/-2", worth("y:[0-7]/[0-2]"), 3);
        due("1/2", worth("y:1/2+5"), 5);
        due("-1/2", worth("y:[0-1]/2+5"), 5);
        due("7/0", worth("y:7/0+5"), 5);
        due("0/0", worth("y:0/0+5"), 5);
        due("-7/0", worth("y:[0-7]/0+5"), 5);
        due("by what is 0", worth("y:7/[i-4]+5"), 5);
        due("-1,000,000/-1", worth("y:[0-1000*1000]/[0-1]-999*1000-950"), 50);
        due("0 as a CONDITION's side", worth("y:5/0=0?6;y:7"), 6);
    }

    private static void lawTruths() {
        at = "CONDITION: TRUTHS with | between; TRUTH: UNITS with & between; UNIT: ! UNIT, ( CONDITION ), or a comparison";
        String[] truths = {"1=1", "1<2", "2>1", "!1=2", "!2<1", "!1>2", "!1<1", "!1>1", "!!1=1", "(1=1)", "!(1=2|2<1)"};
        String[] untruths = {"1=2", "2<1", "1>2", "1<1", "1>1", "!1=1", "!1<2", "!2>1", "!!2=1", "(1=2)", "!(1=2|1<2)"};
        for (String yes : truths) {
            due(yes, worth("y:" + yes + "?1;y:2"), 1);
            for (String no : untruths) {
                due(no, worth("y:" + no + "?1;y:2"), 2);
                due(yes + " and not", worth("y:" + yes + "&" + no + "?1;y:2"), 2);
                due(no + " and", worth("y:" + no + "&" + yes + "?1;y:2"), 2);
                due(yes + " or not", worth("y:" + yes + "|" + no + "?1;y:2"), 1);
                due(no + " or", worth("y:" + no + "|" + yes + "?1;y:2"), 1);
            }
            for (String too : truths) {
                due(yes + " and " + too, worth("y:" + yes + "&" + too + "?1;y:2"), 1);
                due("not both", worth("y:!(" + yes + "&" + too + ")?1;y:2"), 2);
                due("not either", worth("y:!(" + yes + "|" + too + ")?1;y:2"), 2);
            }
        }
        at = "a comparison has SUMS on both sides";
        due("1=2+5", worth("y:1=2+5?1;y:2"), 2);
        due("1>0-1", worth("y:1>0-1?1;y:2"), 1);
        due("5<1+3", worth("y:5<1+3?1;y:2"), 2);
        due("5-2>2", worth("y:5-2>2?1;y:2"), 1);
        due("2*3=12/2", worth("y:2*3=12/2?1;y:2"), 1);
        due("7=1+2*3", worth("y:7=1+2*3&1=1?1;y:2"), 1);
    }

    // ---- light

    private static void lightsHeld() {
        at = "held within 0 .. 99";
        int[] told = {0, 1, 98, 99, 100, 101, 9999};
        int[] want = {0, 1, 98, 99, 99, 99, 99};
        for (int i = 0; i < told.length; i++) {
            due("worth " + told[i], worth("y:" + told[i]), want[i]);
        }
        due("worth -1", worth("y:0-1"), 0);
        due("worth -1,000,000", worth("y:0-1000*1000"), 0);
        due("worth 1,000,000", worth("y:1000*1000"), 99);

        at = "more by twice the CANDLES, 99 at most";
        int[] dark = {0, 58, 59, 60, 97, 98, 99, 100};
        for (int i = 0; i < dark.length; i++) {
            DarkestDay x = port("st99;k;p;p", "y:" + dark[i]);
            x.candles(1);
            due("light with one, of " + dark[i], x.light(0), Math.min(99, Math.min(99, dark[i]) + 2));
            x.candles(9);
            x.candles(9);
            x.candles(1);
            due("light with 20, of " + dark[i], x.light(0), Math.min(99, dark[i] + 40));
            due("of the day behind", x.light(1), Math.min(99, dark[i]));
            due("as it is measured", x.pass(), Math.min(99, dark[i] + 40));
        }
        DarkestDay x = port("k;p;p", "y:0-7");
        x.candles(2);
        due("of less than nothing", x.light(0), 4);
        x.eclipse();
        due("0 with an ECLIPSE", x.light(0), 0);
        due("as it is measured", x.pass(), 0);
        due("it is over", x.light(1) + x.count(11) + x.count(12), 0);
    }

    private static void halfOfAllDays() {
        at = "twice how far i is from half of all DAYS, that half cut, and 4, less FOG";
        for (int days = 2; days <= 30; days++) {
            DarkestDay x = port("sd" + days + ";k;p;p");
            for (int i = 0; i < days; i++) {
                due("light(" + i + ") of " + days, x.light(i), 2 * Math.abs(i - days / 2) + 4);
            }
            due("behind the last", x.light(days), NONE);
        }
        DarkestDay x = port("sd30;k;p;p");
        for (int fog = 1; fog <= 9; fog++) {
            x.fog(fog);
            due("fog at the darkest", x.light(15), Math.max(0, 4 - fog));
            due("fog at the lightest", x.light(0), 34 - fog);
        }
    }

    private static void letters() {
        at = "letters: i the DAY of the year, d DAYS of a year, f FOG, u how many are UP";
        for (int days : new int[] {2, 30}) {
            DarkestDay x = port("sd" + days + ";k;p;p", "y:i");
            due("the first i", x.light(0), 0);
            due("the last i", x.light(days - 1), days - 1);
            due("d", port("sd" + days + ";k;p;p", "y:d").light(0), days);
        }
        DarkestDay x = port("k;p;p;p;p;p;p", "y:u*10+f");
        for (int up = 6; up >= 0; up--) {
            due("u and no fog", x.light(7), up * 10);
            x.fog(9);
            due("u and f", x.light(7), up * 10 + 9);
            x.fog(0);
            x.bed(up - 1);
        }

        at = "r how many VOICES the GOVERNOR has (none governs: 0)";
        x = port("sd2;k;p;p;p;p;p;p", "y:r*10");
        due("none governs", x.light(0), 0);
        for (int up = 6; up >= 0; up--) {
            passes(x, 2);
            due("r", x.light(0), up * 10);
            x.bed(up - 1);
        }
        due("the governor", x.all(8), NONE);
        x = port("sd2;k;k;k;k;k;kn0v9;ph5;ph5;ph5;ph5;ph5;ph5", "y:r*10");
        passes(x, 2);
        due("r of the last kind", x.light(0), 60);
        for (int i = 0; i < 6; i++) {
            x.bed(i);
        }
        passes(x, 2);
        due("none governs, though purses are full", x.light(0) + (x.person(5, 3) == 18 ? 0 : 1), 0);

        at = "y the YEAR modulo 100";
        x = port("sd2;k;p;p", "y:y");
        goes(x, 2 * 99 + 1);
        due("the year", x.count(7), 99);
        due("y of 99", x.light(1), 99);
        x.pass();
        due("the year", x.count(7), 100);
        due("y of 100", x.light(1), 0);
        passes(x, 2);
        due("y of 101", x.light(1), 1);
    }

    // ---- a day passes

    private static void needs() {
        at = "if there is LIGHT of what it NEEDS or more";
        for (int light = 0; light <= 31; light++) {
            DarkestDay x = port("kv1n0;kv1n30;kv1n" + Math.min(30, light) + ";p;ph1;ph2", "y:" + light);
            due("idle", x.all(4), light < 30 ? 2 : 0);
            x.pass();
            due("one who needs none", x.person(0, 3), 1);
            due("one who needs 30", x.person(1, 3), light < 30 ? 0 : 1);
            due("one who needs as much", x.person(2, 3), 1);
            if (light < 30) {
                x = port("kv1n" + (light + 1) + ";p;p", "y:" + light);
                due("all are idle", x.all(4), 3);
                x.pass();
                due("one who needs one more", x.person(0, 3), 0);
                due("he did it all the same", x.did(0, 0), 3);
            }
        }
    }

    private static DarkestDay richPort() {
        DarkestDay x = port("sd30t99;kv9n0;k;po9;ph1o9b1");
        goes(x, 31 * 30 + 12 + 60);
        return x;
    }

    private static void pursesAndTreasury() {
        at = "into his PURSE (0 at first; 9,999 at most)";
        // Nine coins on each of 30 days, then ten a day: 9,990 behind 1,002 days.
        DarkestDay x = richPort();
        due("the purse", x.person(0, 3), 9990);
        due("what it would be behind this year", x.game(0, 1, 0, 1, 0), HIDDEN);
        x.bed(1);
        due("what can still come in", x.game(0, 1, 0, 1, 0), 9 + 5);
        x.bed(1);
        x.pass();
        due("a full purse", x.person(0, 3), 9999);
        x.pass();
        due("stays full", x.person(0, 3), 9999);
        due("the other", x.person(1, 3), 0);
        due("the richest", x.all(0), 0);

        at = "and as much into the TREASURY (999 at most)";
        due("the treasury", x.count(9), 999);
        x.eclipse();
        due("a coin less", x.count(9), 989);
        x.pass();
        due("of a full purse", x.count(9), 999);
        for (int less = 0; less <= 12; less++) {
            x = port("st99;kv9n0;p;pb1");
            for (int i = 0; i < 17; i++) {
                x.give(50);
            }
            x.give(50 - less);
            due("the treasury", x.count(9), 999 - less);
            due("coins of the next day", x.coins(1), Math.min(999, 999 - less + 9));
            x.pass();
            due("behind it", x.count(9), Math.min(999, 999 - less + 9));
        }
    }

    private static void rulers() {
        at = "the RULER is the DAY of it with least LIGHT (of several the first)";
        String[] laws = {"y:i", "y:d-i", "y:5", "y:99", "y:100-i", "y:0", "y:i=3?1;y:i=1?1;y:9"};
        int[] want = {0, 4, 0, 0, 4, 0, 1};
        int[] lights = {0, 1, 5, 99, 96, 0, 1};
        for (int i = 0; i < laws.length; i++) {
            DarkestDay x = port("sd5;k;p;p", laws[i]);
            due("coming by " + laws[i], x.coming(0), want[i]);
            due("its light by " + laws[i], x.coming(1), lights[i]);
            passes(x, 4);
            due("coming at the last day by " + laws[i], x.coming(0), want[i]);
            x.pass();
            due("ruler by " + laws[i], x.log(0, 0), want[i]);
            due("its light by " + laws[i], x.log(0, 1), lights[i]);
        }
        DarkestDay x = port("sd30;k;p;p", "y:50-i");
        due("the thirtieth day", x.coming(0), 29);
        passes(x, 30);
        due("the thirtieth day", x.log(0, 0), 29);
        due("DAY 0 of the next year", x.count(7) * 100 + x.count(8), 100);
    }

    private static void governorsAndObstinacy() {
        at = "each PERSON (in BED, too) who is no more OBSTINATE than the GOVERNOR has VOICES";
        for (int voices = 1; voices <= 5; voices++) {
            for (int more = 0; more <= 1; more++) {
                for (int bed = 0; bed <= 1; bed++) {
                    String text = "sd2;k;k;" + listOf(voices, "po9") + ";ph1o" + (voices + more) + "b" + bed;
                    DarkestDay x = port(text);
                    due("swayed", x.all(7), more == 0 ? 1 << voices : 0);
                    passes(x, 2);
                    due("voices", x.kind(0, 2), voices);
                    due("his habit", x.person(voices, 0), more);
                }
            }
        }
        DarkestDay x = port("sd2;k;k;po0;ph1o0b1;ph1o1b1");
        x.bed(0);
        passes(x, 2);
        due("no voices sway nobody", x.person(1, 0) * 10 + x.person(2, 0), 11);
        due("none governs", x.all(8), NONE);

        at = "the GOVERNOR is the KIND with most VOICES (of several the lowest)";
        x = port("sd2;k;k;k;k;k;k;ph5o9;ph4o9;ph4o9;ph3o9;ph3o9;ph2o9");
        passes(x, 2);
        due("of two the lowest", x.all(8), 3);
        due("log", x.log(0, 2), 3);
        x.habit(5, 5);
        x.habit(3, 5);
        passes(x, 2);
        due("the highest alone", x.all(8), 5);
        due("all voices", new int[] {x.kind(0, 2), x.kind(3, 2), x.kind(4, 2), x.kind(5, 2)}, 0, 1, 2, 3);
        x = port(SIX, "y:i+5");
        passes(x, 2);
        due("six voices", x.kind(0, 2), 6);
        due("the log of six kinds", new int[] {x.log(0, 0), x.log(0, 1), x.log(0, 2)}, 0, 5, 0);
    }

    private static void logOfSixtyYears() {
        at = "the LOG (the latest 60 years)";
        DarkestDay x = port("sd2;k;p;p", "y:y");
        due("none", x.count(15), 0);
        due("log(0, 1)", x.log(0, 1), HIDDEN);
        passes(x, 2);
        due("one", x.count(15), 1);
        due("log(0, 1)", x.log(0, 1), 0);
        due("log(1, 1)", x.log(1, 1), HIDDEN);
        passes(x, 2 * 58);
        due("59", x.count(15), 59);
        due("log(58, 1)", x.log(58, 1), 0);
        due("log(59, 1)", x.log(59, 1), HIDDEN);
        passes(x, 2);
        due("60", x.count(15), 60);
        due("log(0, 1)", x.log(0, 1), 59);
        due("log(59, 1)", x.log(59, 1), 0);
        due("log(60, 1)", x.log(60, 1), HIDDEN);
        x.image();
        passes(x, 2);
        due("still 60", x.count(15), 60);
        due("log(0, 1)", x.log(0, 1), 60);
        due("log(59, 1)", x.log(59, 1), 1);
        due("log(60, 1)", x.log(60, 1), HIDDEN);
        x.undo();
        due("undone", x.log(0, 1) * 100 + x.log(59, 1), 5900);
        passes(x, 21);
        due("round and on", x.log(0, 1) * 100 + x.log(59, 1), 7011);
        for (int i = 0; i < 60; i++) {
            due("log(" + i + ", 1)", x.log(i, 1), 70 - i);
        }
        x.back();
        due("back", x.log(0, 1) * 100 + x.log(59, 1), 5900);
        for (int i : new int[] {-1, Integer.MIN_VALUE, Integer.MAX_VALUE}) {
            due("log(" + i + ", 0)", x.log(i, 0), HIDDEN);
            due("log(0, " + i + ")", x.log(0, i), HIDDEN);
        }
        due("log(0, 3)", x.log(0, 3), HIDDEN);
    }

    // ---- the last year

    private static void theLastYear() {
        at = "the YEAR (999 at most: no DAY passes that would end it)";
        for (int days : new int[] {2, 3, 4}) {
            DarkestDay x = port("sd" + days + "t99;kv0;po9;pb1", "y:y");
            tell(x, CALENDAR, "d;d;d");
            goes(x, 939 * days);
            passes(x, 60 * days - 1);
            due("the last day of 998", x.count(7) * 100 + x.count(8), 99800 + days - 1);
            due("the day", x.pass(), 98);
            due("the first of 999", x.count(7) * 100 + x.count(8), 99900);
            due("log", x.log(0, 1) * 100 + x.log(59, 1), 9839);
            due("run", x.run(0, 0), days - 1 < 3 ? days - 1 : NONE);
            due("years beyond it", x.years(days, 1), NONE);
            due("years beyond it", x.years(60, 1), NONE);
            due("years up to the last day", x.years(days - 1, 1), days - 1);
            due("one more", x.years(1, 1), NONE);
            due("the year", x.count(7), 999);
            due("pass", x.pass(), NONE);
            due("pass again", x.pass(), NONE);
            due("run", x.run(0, 0), 0);
            due("perform", x.perform(0), 0);
            statuses(x, 0, 0, 0, 0, 2);
            due("the day", x.count(8), days - 1);
            due("all else can be", x.eclipse(), x.count(9));
            due("left", x.all(6), 1);
            beyondTheLastYear(x, days);
            x.undo();
            x.undo();
            due("the day undone", x.count(8), days - 2);
            due("it can pass again", x.pass() >= 0, true);
            due("and none more", x.pass(), NONE);
        }
    }

    /** YEARS go on behind 999, apart: the last day of it has an eclipse and would bring in nothing. */
    private static void beyondTheLastYear(DarkestDay x, int days) {
        due("the governor behind it", x.governs(1), 0);
        due("the governor far behind it", x.governs(60), 0);
        due("it comes round", x.round(0) * 10 + x.round(1), 11);
        due("coins", x.coins(1), x.count(9));
        // One voice brings a coin a day if there is light of 4 or more: y is 0 in the year 1000, 4 in 1004.
        due("coins of the dark years behind it", x.coins(1 + 4 * days), x.count(9));
        due("coins of the fifth", x.coins(1 + 5 * days), Math.min(999, x.count(9) + days));
    }

    // ---- acts

    private static void actsByHand() {
        at = "FOG is set (0 .. 9)";
        DarkestDay x = port("k;p;p");
        due("fog(-1)", x.fog(-1), NONE);
        due("fog(0), as it is", x.fog(0), NONE);
        due("fog(10)", x.fog(10), NONE);
        due("fog(9)", x.fog(9), 0);
        due("fog(9), as it is", x.fog(9), NONE);
        due("fog(0)", x.fog(0), 9);
        statuses(x, 0, 2, 2, 0, 0);

        at = "a PERSON is given another HABIT (a coin of the TREASURY)";
        x = port("st1;k;k;k;k;k;k;p;p;p;p;p;p");
        due("habit(5, 5)", x.habit(5, 5), 0);
        due("habit(5, 5), as it is", x.habit(5, 5), NONE);
        x.give(1);
        due("habit(5, 4)", x.habit(5, 4), 5);
        x.give(1);
        due("habit(5, 5)", x.habit(5, 5), 4);
        due("without a coin", x.habit(5, 0), NONE);
        due("habit(6, 0)", x.habit(6, 0), NONE);
        due("habit(0, 6)", x.habit(0, 6), NONE);
        due("habit(0, 0), as it is", x.habit(0, 0), NONE);
        statuses(x, 2, 0, 2, 1, 0);
        due("the coin", x.count(9), 0);
        due("his habit", x.person(5, 0), 5);

        at = "an ECLIPSE is made for the DAY to come (10 coins)";
        x = port("st9;k;p;p");
        due("with nine", x.eclipse(), NONE);
        statuses(x, 0, 0, 0, 1, 0);
        x.give(1);
        due("with ten", x.eclipse(), 0);
        due("as it is, and without a coin", x.eclipse(), NONE);
        statuses(x, 0, 0, 1, 1, 0);
        x = port("st11;k;p;p");
        due("with eleven", x.eclipse(), 1);

        at = "goes to BED, or gets up (for nothing)";
        x = port("st0;k;p;p;p;p;p;pb1");
        due("the last", x.bed(5), 0);
        due("the last", x.bed(5), 1);
        due("the first", x.bed(0), 1);
        due("a seventh", x.bed(6), NONE);
        due("bed(-1)", x.bed(-1), NONE);
        due("bed(32)", x.bed(32), NONE);
        due("up", x.all(3), 30);
        statuses(x, 3, 0, 0, 0, 0);
    }

    private static void candlesAndCoins() {
        at = "CANDLES are lit for it (n 1 .. 9: so many more, 20 at most; n coins)";
        DarkestDay x = port("st99;k;p;p");
        due("candles(0)", x.candles(0), NONE);
        due("candles(10)", x.candles(10), NONE);
        due("candles(-1)", x.candles(-1), NONE);
        due("candles(1)", x.candles(1), 1);
        due("candles(9)", x.candles(9), 10);
        due("candles(9)", x.candles(9), 19);
        due("21", x.candles(2), NONE);
        due("20", x.candles(1), 20);
        due("21", x.candles(1), NONE);
        due("more at once than there may be", x.candles(9), NONE);
        due("the coins", x.count(9), 79);
        statuses(x, 0, 3, 0, 3, 0);
        x.pass();
        due("of the next day", x.candles(9), 9);
        for (int coins = 0; coins <= 9; coins++) {
            for (int n = 1; n <= 9; n++) {
                x = port("st" + coins + ";k;p;p");
                due("candles(" + n + ") for " + coins, x.candles(n), n <= coins ? n : NONE);
                due("coins left", x.count(9), n <= coins ? coins - n : coins);
                statuses(x, 0, 0, 0, n <= coins ? 0 : 1, 0);
            }
        }

        at = "coins are given (1 .. 50; 999 at most)";
        x = port("st99;k;p;p");
        due("give(0)", x.give(0), NONE);
        due("give(51)", x.give(51), NONE);
        due("give(-1)", x.give(-1), NONE);
        due("give(1)", x.give(1), 100);
        due("give(49)", x.give(49), 149);
        for (int i = 1; i <= 16; i++) {
            due("give(50)", x.give(50), 149 + 50 * i);
        }
        due("give(50) at 949", x.give(50), 999);
        due("give(1) at 999", x.give(1), NONE);
        due("give(50) at 999", x.give(50), NONE);
        due("give(51) at 999", x.give(51), NONE);
        statuses(x, 0, 4, 0, 2, 0);
        x.candles(1);
        due("give(2) at 998", x.give(2), NONE);
        due("give(1) at 998", x.give(1), 999);
        x.candles(9);
        due("give(10) at 990", x.give(10), NONE);
        due("give(9) at 990", x.give(9), 999);
    }

    private static void fortyActs() {
        at = "the latest 40 can be UNDONE one by one";
        for (int acts = 38; acts <= 85; acts++) {
            DarkestDay x = port("k;p;p");
            for (int i = 1; i <= acts; i++) {
                x.give(1);
            }
            int left = Math.min(40, acts);
            due("acts", x.count(16), left);
            for (int i = left - 1; i >= 0; i--) {
                due("undo", x.undo(), i);
                due("coins", x.count(9), 20 + acts - left + i);
            }
            due("none more", x.undo(), NONE);
            due("coins", x.count(9), 20 + acts - left);
        }
        DarkestDay x = port("k;p;p");
        due("none", x.undo(), NONE);
        for (int i = 0; i < 41; i++) {
            x.give(1);
        }
        for (int i = 0; i < 5; i++) {
            x.undo();
        }
        due("35", x.count(16), 35);
        for (int i = 0; i < 5; i++) {
            x.bed(0);
        }
        due("40 again", x.count(16), 40);
        x.bed(0);
        due("40 still", x.count(16), 40);
        for (int i = 39; i >= 0; i--) {
            due("undo", x.undo(), i);
        }
        due("two stay done", x.count(9) + x.all(3), 22 + 3);
        x = port("sd30;k;p;p");
        x.years(60, 5);
        due("each of 60 days is one", x.count(16), 40);
        for (int i = 0; i < 40; i++) {
            x.undo();
        }
        due("twenty stay done", x.count(7) * 100 + x.count(8), 20);
    }

    // ---- the numbers of each call

    private static void range(String call, int least, int most, IntPredicate takes) {
        at = call + " of " + least + " .. " + most;
        for (int n = least; n <= most; n++) {
            due("" + n, takes.test(n), true);
        }
        int[] wrong = {least - 1, most + 1, least - 2, most + 2, Integer.MIN_VALUE, Integer.MAX_VALUE,
            least + 256, least + 65536, least + (1 << 30), most - 256, HIDDEN};
        for (int n : wrong) {
            due("" + n, takes.test(n), n >= least && n <= most);
        }
    }

    /** A seaport of nine days of which the first is over, by three kinds and four persons. */
    private static DarkestDay some() {
        DarkestDay x = new DarkestDay();
        tell(x, SEAPORT, "sd9t50;k;k;k;p;p;p;p");
        x.pass();
        return x;
    }

    private static void ranges() {
        range("fault", 0, 2, n -> new DarkestDay().fault(n) != -2);
        range("whim", 0, 9, n -> new DarkestDay().whim(n) || n == 2);
        range("fog", 0, 9, n -> some().fog(n) != NONE || n == 0);
        range("candles", 1, 9, n -> some().candles(n) != NONE);
        range("give", 1, 50, n -> some().give(n) != NONE);
        range("years", 1, 60, n -> some().years(n, 1) != NONE);
        range("status", 0, 4, n -> some().status(n) == 0);
        range("light", 0, 8, n -> some().light(n) != NONE);
        range("coming", 0, 1, n -> some().coming(n) != NONE);
        range("may", 0, 20, n -> some().may(n) != NONE);
        range("governs", 0, 60, n -> some().governs(n) != HIDDEN);
        range("round", 0, 1, n -> some().round(n) != NONE);
        range("coins", 0, 99, n -> some().coins(n) != NONE);
        range("seen's n", 1, 60, n -> some().seen(n, 0, true) == 1);
        range("seen's v", 0, 999, n -> some().seen(1, n, false) == 1);
        range("odds' day", 0, 8, n -> some().odds(n, 50) != NONE);
        range("odds' chance", 0, 100, n -> some().odds(0, n) != NONE);
        range("shares' c", 0, 999, n -> some().shares(0, n) == n / 4);
        range("did's day", 0, 0, n -> some().did(n, 0) != NONE);
        range("all", 0, 8, n -> some().all(n) != HIDDEN);
        range("count", 0, 16, n -> some().count(n) != HIDDEN);
        range("law", -1, -1, n -> some().law(n));
        range("game's what", 0, 1, n -> some().game(0, 1, 0, 0, n) != HIDDEN);
        range("kind's what", 0, 3, n -> some().kind(0, n) != HIDDEN);
        range("end", 0, 5, n -> {
            DarkestDay x = new DarkestDay();
            fill(x, "k;p;p");
            return x.end(n);
        });
    }

    private static boolean isPerson(int person, int what) {
        try {
            return some().person(person, what) >= 0;
        } catch (java.util.NoSuchElementException e) {
            return false;
        }
    }

    /** Persons, kinds, laws, calendars and steps that are there, and those that are not. */
    private static void things() {
        range("person", 0, 3, n -> isPerson(n, 0));
        range("person's what", 0, 3, n -> isPerson(0, n));
        range("habit's person", 0, 3, n -> some().habit(n, 1) != NONE);
        range("habit's kind", 0, 2, n -> some().habit(1, n) != NONE || n == 0);
        range("bed", 0, 3, n -> some().bed(n) != NONE);
        range("kind", 0, 2, n -> some().kind(n, 0) != HIDDEN);
        range("swings", 0, 2, n -> some().swings(n) != NONE);
        range("bedding", 0, 0, n -> some().bedding(n) != NONE);
        range("habits' person", 0, 3, n -> some().habits(n, NONE) != NONE);
        range("habits' i", -1, 2, n -> some().habits(0, n) != NONE);
        range("ask", 0, 3, n -> some().ask(n) != NONE);
        range("game's one", 0, 3, n -> some().game(n, n == 1 ? 2 : 1, 0, 0, 0) != HIDDEN);
        range("game's other", 0, 3, n -> some().game(n == 1 ? 2 : 1, n, 0, 0, 0) != HIDDEN);
        range("game's x", 0, 2, n -> some().game(0, 1, n, 0, 0) != HIDDEN);
        range("game's y", 0, 2, n -> some().game(0, 1, 0, n, 0) != HIDDEN);
        range("rests' one", 0, 3, n -> some().rests(n, n == 1 ? 2 : 1, NONE) != NONE);
        range("rests' other", 0, 3, n -> some().rests(n == 1 ? 2 : 1, n, NONE) != NONE);
        range("rests' i", -1, some().rests(0, 1, NONE) - 1, n -> some().rests(0, 1, n) != NONE);
        range("shares' person", 0, 3, n -> some().shares(n, 1) != NONE);
        range("did's kind", 0, 2, n -> some().did(0, n) != NONE);
        range("law", -1, 1, n -> {
            DarkestDay x = new DarkestDay();
            tell(x, LAW, "y:1");
            tell(x, LAW, "y:1");
            return x.law(n);
        });
        range("step's calendar", 0, 1, n -> withCalendars().step(n, 0, 0) != HIDDEN);
        range("step's i", 0, 1, n -> withCalendars().step(0, n, 0) != HIDDEN);
        range("step's what", 0, 2, n -> withCalendars().step(0, 0, n) != HIDDEN);
        range("run's calendar", 0, 1, n -> withCalendars().run(n, 0) != HIDDEN);
        range("run's what", 0, 1, n -> withCalendars().run(0, n) != HIDDEN);
        range("perform", 0, 1, n -> withCalendars().perform(n) == 2);
    }

    private static DarkestDay withCalendars() {
        DarkestDay x = some();
        tell(x, CALENDAR, "d;b3");
        tell(x, CALENDAR, "b0;b1");
        return x;
    }

    // ---- calendars

    private static int behind(String seaport, String calendar, int what) {
        DarkestDay x = port(seaport);
        due("the calendar " + calendar, tell(x, CALENDAR, calendar), 0);
        return x.run(0, what);
    }

    private static void calendarsRun() {
        at = "what a STEP tells that is not there or can't be is no FAULT: the STEP can't be";
        String two = "st99;kv0;kv0;p;p";
        String[] can = {"h01", "h11", "b0", "b1", "f1", "f9", "c1", "c9", "e"};
        String[] cannot = {"h00", "h02", "h09", "h20", "h90", "b2", "b9", "f0", "c0"};
        for (String step : can) {
            due("can be: " + step, behind(two, step, 0), NONE);
        }
        for (String step : cannot) {
            due("can't be: " + step, behind(two, step, 0), 0);
            due("its coins: " + step, behind(two, step, 1), 0);
        }
        String six = "k;k;k;k;k;k;p;p;p;p;p;p";
        due("the last of six", behind(six, "h55;b5", 0), NONE);
        due("a seventh", behind(six, "h56", 0) + behind(six, "h65", 0) + behind(six, "b6", 0), 0);
        at = "behind how many STEPS the first is that can't be";
        due("the last of twenty", behind(two, listOf(19, "d") + ";e", 0), NONE);
        due("the last of twenty", behind(two, listOf(19, "d") + ";f0", 0), 19);
        due("of several the first", behind(two, "b0;f0;f0", 0), 1);
        at = "how much more TREASURY there is behind it (less: below 0)";
        due("less", behind("st10;kv0;k;p;p", "e", 1), -10);
        due("too little for it", behind("st9;kv0;k;p;p", "e", 0), 0);
        due("less", behind("st9;kv0;k;p;p", "c9", 1), -9);
        due("too little for it", behind("st8;kv0;k;p;p", "c9", 0), 0);
        due("20 candles", behind(two, "c9;c9;c2", 1), -20);
        due("21 candles", behind(two, "c9;c9;c3", 1), -18);
        due("21 candles", behind(two, "c9;c9;c3", 0), 2);
        due("20 on the next day", behind(two, "c9;c9;c2;d;c9;c9;c2", 0), NONE);
        due("an eclipse of the next day", behind(two, "e;d;e", 0), NONE);
        due("an eclipse twice", behind(two, "e;e", 0), 1);
        due("more", behind("kv9n0;k;p;p", "d;d", 1), 36);
        at = "DO: its STEPS as ACTS, up to there";
        DarkestDay x = port(two);
        tell(x, CALENDAR, listOf(20, "b0"));
        tell(x, CALENDAR, "f0;b1");
        tell(x, CALENDAR, "b1;f0;b1");
        due("all of twenty", x.perform(0), 20);
        due("acts", x.count(16), 20);
        due("none", x.perform(1), 0);
        due("acts", x.count(16), 20);
        due("one", x.perform(2), 1);
        due("acts", x.count(16), 21);
        due("nothing behind it", x.all(3), 1);
        due("all of twenty", x.perform(0), 20);
        due("the latest 40", x.count(16), 40);
        statuses(x, 0, 0, 0, 0, 0);
        x = port(six);
        tell(x, CALENDAR, "h25;h54;b4;f7;e;h20");
        due("all", x.perform(0), 6);
        due("habits", new int[] {x.person(2, 0), x.person(5, 0)}, 0, 4);
        due("up, fog, eclipse", new int[] {x.all(3), x.count(10), x.count(11), x.count(9)}, 47, 7, 1, 20 - 13);
        due("the same habit again", behind(six, "h25;h25", 0), 1);
        due("another habit again", behind(six, "h25;h24;h25", 0), NONE);
    }

    // ---- questions

    private static void daysThatMay() {
        at = "MAY: LIGHT no more than 2 e above the least";
        for (int e = 0; e <= 20; e++) {
            DarkestDay x = port("sd4;k;p;p", "y:i=0?7+" + 2 * e + ";y:i=1?7;y:i=2?8+" + 2 * e + ";y:99");
            due("as much and one more, e " + e, x.may(e), 3);
        }
        DarkestDay x = port("sd30;k;p;p", "y:5");
        due("all of thirty", x.may(0), (1 << 30) - 1);
        due("all of thirty", x.may(20), (1 << 30) - 1);
        x = port("sd30;k;p;p", "y:99-i");
        due("the thirtieth", x.may(0), 1 << 29);
        due("its neighbours", x.may(1), 7 << 27);
        due("all but the first", port("sd2;k;p;p", "y:i=0?99;y:58").may(20), 2);
        due("the first, too", port("sd2;k;p;p", "y:i=0?98;y:58").may(20), 3);
    }

    private static void yearsAhead() {
        at = "GOVERNS for n (0 .. 60) years (0: now)";
        DarkestDay x = port("k;k;k;ph1;ph1;ph2");
        due("now", x.governs(0), NONE);
        due("one", x.governs(1), 1);
        due("sixty", x.governs(60), 1);
        due("sixty-one", x.governs(61), HIDDEN);
        passes(x, 8);
        due("now", x.governs(0), 1);

        at = "ROUND: behind how many of these they were so first (1 ..); how many came from then on (it counts, too)";
        // One voice more each year, from one to six.
        x = port("k;k;po9;ph1o1;ph1o2b1;ph1o3b1;ph1o4b1;ph1o5b1");
        due("as at first behind two", x.round(0), 2);
        due("from then on", x.round(1), 1);
        for (int i = 2; i < 6; i++) {
            x.bed(i);
        }
        due("by the lowest of the kinds", x.governs(1), 1);
        x = port("k;k;ph0;ph0;ph1o2;ph1o3;ph1o4b1;po9b1");
        due("three up, then four", x.round(0), 3);
        due("from then on", x.round(1), 1);
        x = port(SIX);
        due("at once", x.round(0) * 10 + x.round(1), 11);
        x = port("k;pb1;pb1");
        due("nobody is up", x.round(0) * 10 + x.round(1), 11);

        at = "COINS for n (0 .. 99) DAYS";
        x = port("sd30t0;kv1n0;po9;pb1");
        due("behind none", x.coins(0), 0);
        due("behind one", x.coins(1), 1);
        due("behind a year", x.coins(30), 30);
        due("behind a year and a day", x.coins(31), 32);
        due("behind 99", x.coins(99), 30 + 69 * 2);
        due("behind 100", x.coins(100), NONE);
    }

    private static void swingsAndBeds() {
        at = "SWINGS: the fewest PERSONS (bits; of several the least)";
        DarkestDay x = port("k;k;k;k;k;k;p;p;p;p;p;p");
        int[] want = {0, 15, 15, 15, 15, 15};
        for (int kind = 0; kind < 6; kind++) {
            due("swings(" + kind + ")", x.swings(kind), want[kind]);
        }
        x.habit(0, 5);
        due("one does it already", x.swings(5), 14);
        for (int i = 1; i < 6; i++) {
            x.bed(i);
        }
        due("one alone", x.swings(5), 0);
        due("the same one", x.swings(0), 1);
        x.bed(0);
        due("none is up", x.swings(0), NONE);
        due("all in bed", x.bedding(0), NONE);

        at = "BEDDING: the fewest of those UP (bits; likewise)";
        x = port("k;k;k;k;k;k;p;p;p;p;p;ph5");
        due("all the others", x.bedding(5), 31);
        due("one more in bed", x.bed(0) + x.bedding(5) * 100, 3001);
        due("nobody does it", x.bedding(1), NONE);
        x = port("k;k;ph1;ph1;ph0;ph1;ph0;ph1");
        due("two of four", x.bedding(0), 3);
        x = port("k;k;ph0;ph0;ph1;ph0;ph1;ph0");
        due("three of four", x.bedding(1), 11);
        at = "SWINGS: the fewest ahead of the least";
        x = port("k;k;k;k;ph1;ph2;ph0;ph0;ph3");
        due("the third alone, not the first two", x.swings(3), 4);
        at = "BEDDING: all of those UP, so that a DAY that is over is darkest";
        x = port("sd3;k;k;p;p;pb1", "y:i=1?5;y:i=0?7;y:u=0?9;y:1");
        x.pass();
        x.habit(0, 1);
        x.habit(1, 1);
        x.pass();
        x.habit(0, 0);
        x.habit(1, 0);
        due("the second day governs", x.bedding(1), 3);
        due("anyhow", x.bedding(0), 0);
        x = port("sd3;k;k;p;p;pb1", "y:i=1?5;y:i=0?7;y:u=2?9;y:1");
        x.pass();
        x.habit(0, 1);
        x.habit(1, 1);
        x.pass();
        x.habit(0, 0);
        due("by one in bed the other governs", x.bedding(0), 2);
        due("anyhow by the second day", x.bedding(1), 0);
        at = "by none: the RULER is over";
        x = port("sd2;k;k;p;p", "y:i");
        x.pass();
        due("swings", x.swings(1), NONE);
        due("bedding", x.bedding(1), NONE);
        due("anyhow", x.swings(0) + x.bedding(0), 0);
    }

    private static void seenAndAsked() {
        at = "SEEN (10 at most)";
        DarkestDay x = port("k;p;p");
        for (int i = 1; i <= 10; i++) {
            due("seen", x.seen(1, 0, true), i);
        }
        due("an eleventh", x.seen(1, 0, false), NONE);
        due("ten", x.count(14), 10);
        due("the eleventh counts for nothing", x.habits(0, NONE), 1);
        x = port("k;p;p");
        for (int i = 1; i <= 9; i++) {
            x.seen(1, 0, true);
        }
        x.seen(1, 0, false);
        due("the tenth counts", x.habits(0, NONE), 0);

        at = "behind n (1 .. 60) DAYS TREASURY was v (0 .. 999) or more, or less";
        // A coin a day as told, two from the year's end on: behind 60 days 90.
        String port = "sd30t0;kv1n0;po9;pb1";
        int[][] coins = {{1, 1}, {30, 30}, {31, 32}, {60, 90}};
        for (int[] c : coins) {
            due("or more, as much", fits(port, c[0], c[1], true), 1);
            due("or more, one less", fits(port, c[0], c[1] - 1, true), 1);
            due("or more, one more", fits(port, c[0], c[1] + 1, true), 0);
            due("or less, as much", fits(port, c[0], c[1], false), 0);
            due("or less, one more", fits(port, c[0], c[1] + 1, false), 1);
        }
        due("0 or more", fits(port, 1, 0, true), 1);
        due("less than 0", fits(port, 1, 0, false), 0);
        due("999 or more", fits("st99;kv9n0;p;p;p;p;p;p", 60, 999, true), 1);
        due("less than 999", fits("st99;kv9n0;p;p;p;p;p;p", 60, 999, false), 0);

        at = "HABITS: how many (i NONE), the i-th (rising)";
        x = port("k;k;k;k;k;k;p;p");
        due("all six", x.habits(1, NONE), 6);
        for (int i = 0; i < 6; i++) {
            due("habits(1, " + i + ")", x.habits(1, i), i);
        }
        due("habits(1, 6)", x.habits(1, 6), NONE);
        due("habits(1, -2)", x.habits(1, -2), NONE);
        x = port("kv0n0;kv3n0;kv1n0;kv4n0;p;pb1");
        x.seen(1, 23, true);
        due("two of four", new int[] {x.habits(0, NONE), x.habits(0, 0), x.habits(0, 1), x.habits(0, 2)}, 2, 1, 3, NONE);

        at = "ASK: the n (1 .. 60); NONE: nothing fits";
        due("of several the least", x.ask(0), 1);
        due("all alike in bed", x.ask(1), NONE);
        x = port("k;k;p;pb1");
        due("all alike in bed", x.ask(1), 1);
        due("six alike", port("k;k;k;k;k;k;p;pb1").ask(1), 1);
        x = port("kv0n0;kv9n0;k;p;pb1");
        x.seen(1, 21, false);
        due("the first alone", x.habits(0, NONE) * 10 + x.ask(0), 11);
        String last = "sd30t0;kv0n2;kv0n5;po9;pb1";
        due("unlike behind 60 days alone", port(last, "y:y*30+i=59?3;y:9").ask(0), 60);
        due("unlike behind 61", port(last, "y:y*30+i=60?3;y:9").ask(0), 1);
    }

    private static int fits(String seaport, int n, int v, boolean more) {
        DarkestDay x = port(seaport);
        due("seen", x.seen(n, v, more), 1);
        return x.habits(0, NONE);
    }

    private static void games() {
        at = "GAME: this year's end (behind all that takes place in it)";
        DarkestDay x = port("sd2;kv1n0;kv3n0;po9;po9", "y:i");
        due("two days and 5", x.game(0, 1, 0, 0, 0), 7);
        due("two days", x.game(0, 1, 0, 1, 1), 6);
        x.pass();
        due("one day", x.game(0, 1, 1, 1, 1), 3);
        due("one day and 5", x.game(0, 1, 0, 0, 1), 6);
        x = port("sd2;kv1n0;kv3n0;po9;po9", "y:9-i");
        x.pass();
        due("the last day rules", x.game(0, 1, 1, 1, 1), 8);
        x.pass();
        due("with a voice each more", x.game(0, 1, 0, 1, 0), 2 * 3 + 5);
        due("the second kind has none", x.game(0, 1, 0, 1, 1), 2 * 3);

        at = "GAME: all pairs of six KINDS";
        x = port("sd2;kv0n0;kv1n0;kv2n0;kv3n0;kv4n0;kv5n0;po9;po9;po9;ph3o9");
        for (int one = 0; one < 6; one++) {
            for (int other = 0; other < 6; other++) {
                // The third does the first kind, the fourth the fourth; of several the lowest governs.
                int[] voices = {1, 0, 0, 1, 0, 0};
                voices[one]++;
                voices[other]++;
                int governor = 0;
                for (int kind = 1; kind < 6; kind++) {
                    governor = voices[kind] > voices[governor] ? kind : governor;
                }
                int first = 2 * one + (governor == one ? 5 : 0);
                int second = 2 * other + (governor == other ? 5 : 0);
                due("the first by " + one + ", " + other, x.game(0, 1, one, other, 0), first);
                due("the second by " + one + ", " + other, x.game(0, 1, one, other, 1), second);
                due("the second as the first", x.game(1, 0, other, one, 0), second);
                due("the first as the second", x.game(1, 0, other, one, 1), first);
            }
        }
        x = port("sd2;k;k;k;k;k;kv2n0;ph1o9;ph5;ph5;ph4o9");
        due("of others", x.game(3, 0, 1, 1, 0) + x.game(3, 0, 5, 0, 0), 11 + 9);
        passes(x, 2);
        due("voices of the last kind", x.game(3, 0, 5, 5, 0), 2 * 4 + 5);
        due("no voices of the third", x.game(3, 0, 2, 5, 0), 2 * 3);

        at = "of two who are UP, not alike";
        x = port("k;k;p;p;p;p;p;pb1");
        due("the last is in bed", x.game(0, 5, 0, 0, 0), HIDDEN);
        due("the first of two is in bed", x.rests(5, 0, NONE), NONE);
        x.bed(5);
        due("the last is up", x.game(0, 5, 0, 0, 0) != HIDDEN, true);
        due("he is", x.rests(5, 0, NONE) != NONE, true);
        for (int i = 0; i < 6; i++) {
            due("alike", x.game(i, i, 0, 0, 0), HIDDEN);
            due("alike", x.rests(i, i, NONE), NONE);
        }

        at = "RESTS: 10 times x and y: how many, the i-th (rising)";
        x = port("sd2;kv0;kv0;kv0;kv0;kv0;kv0;ph5;ph5;p;p;p;p");
        due("all pairs but those who could govern", x.rests(0, 1, NONE) >= 1, true);
        int many = x.rests(0, 1, NONE);
        int ahead = -1;
        for (int i = 0; i < many; i++) {
            due("rising", x.rests(0, 1, i) > ahead, true);
            ahead = x.rests(0, 1, i);
        }
        due("one more", x.rests(0, 1, many), NONE);
        due("rests(0, 1, -2)", x.rests(0, 1, -2), NONE);
        x = port("sd2;kv0;kv0;kv0;kv0;kv0;kv0;p;p", "y:i");
        x.pass();
        due("the ruler is over: none gains but by the first", x.rests(0, 1, NONE), 1);
        x = port("sd2;kv0;kv0;kv0;kv0;kv0;kv0;pb1;pb1", "y:i");
        x.pass();
        x.bed(0);
        x.bed(1);
        due("nobody will govern: all pairs", x.rests(0, 1, NONE), 36);
        for (int i = 0; i < 36; i++) {
            due("the pair " + i, x.rests(1, 0, i), i / 6 * 10 + i % 6);
        }
        due("a 37th", x.rests(0, 1, 36), NONE);
        x = port("k;p;p");
        due("of one kind", x.rests(0, 1, NONE) * 100 + x.rests(0, 1, 0), 100);
        x = port("sd2;kv9n0;k;k;k;k;kv0n30;po9;po9b1");
        goes(x, 1002);
        x.bed(1);
        due("one purse is full", x.person(0, 3), 9999);
        due("five alone for the one, coins for the other", x.rests(0, 1, NONE) * 100 + x.rests(0, 1, 0), 100);
        x = port("sd2;k;kv0;kv0;kv0;kv0;kv0;p;p;p;p;p;p", "y:3");
        for (int i = 2; i < 6; i++) {
            x.bed(i);
        }
        x.pass();
        due("five to the first alone", x.rests(0, 1, 0), 0);
        x = port("sd2;kv0;kv0;kv0;kv0;kv0;kv9n0;po9;po9");
        due("the highest pair", x.rests(0, 1, x.rests(0, 1, NONE) - 1), 55);
    }

    private static void odds() {
        at = "ODDS for a chance (0 .. 100), if 8 at most are still to come";
        DarkestDay x = port("sd30;k;p;p");
        passes(x, 21);
        due("nine to come", x.odds(15, 50), NONE);
        x.pass();
        due("eight to come", x.odds(29, 0), 0);
        due("the day that is over", x.odds(15, 0), 1000000000);
        due("behind the last day", x.odds(30, 50), NONE);
        for (int chance : new int[] {0, 1, 33, 50, 99, 100}) {
            long all = 0;
            for (int day = 0; day < 30; day++) {
                all += x.odds(day, chance);
            }
            due("all parts by " + chance, all, 1000000000L);
        }
        passes(x, 7);
        due("one to come", x.odds(29, 100) + x.odds(15, 100), 1000000000);
        due("of eight days", port("k;p;p").odds(4, 0), 1000000000);

        at = "FOG is 9 by chance, else 0";
        x = port("sd2;k;p;p", "y:f+3");
        x.fog(1);
        x.pass();
        due("no fog is darker than fog 1", x.odds(1, 0), 1000000000);
        due("fog 9 is lighter", x.odds(0, 100), 1000000000);
        x = port("sd2;k;p;p", "y:12-f");
        x.fog(8);
        x.pass();
        due("fog 9 is darker than fog 8", x.odds(1, 100), 1000000000);
        due("no fog is lighter", x.odds(0, 0), 1000000000);

        at = "of each part chance 100ths, cut, 9";
        x = port("sd8;k;p;p", "y:f=9?1;y:i+2");
        long part = 1000000000L;
        for (int day = 0; day < 8; day++) {
            long foggy = part * 33 / 100;
            // Day 0 is ruler by fog on it, or without fog at all.
            if (day > 0) {
                due("the first in fog is day " + day, x.odds(day, 33), foggy);
            }
            part -= foggy;
        }
        due("day 0", x.odds(0, 33), 330000000 + part);
        x = port("sd8;k;p;p", "y:f=9?99;y:i+2");
        part = 1000000000L;
        for (int day = 0; day < 8; day++) {
            long foggy = part * 77 / 100;
            if (day > 0) {
                due("the first without fog is day " + day, x.odds(day, 77), part - foggy);
            }
            part = foggy;
        }
        due("day 0", x.odds(0, 77), 230000000 + part);
    }

    private static void shares() {
        at = "SHARES of c (0 .. 999) by PURSE: c times his by all, cut (none: 0)";
        DarkestDay x = port("kv1;k;p;pb1;pb1");
        due("none", x.shares(0, 999) + x.shares(1, 999), 0);
        x.pass();
        due("of one coin", x.shares(0, 999), 999);
        due("of none", x.shares(1, 999), 0);
        x.bed(1);
        x.bed(2);
        x.pass();
        due("two of four", x.shares(0, 999), 499);
        due("one of four", x.shares(2, 999), 249);
        due("c 0", x.shares(0, 0), 0);
        due("c 1", x.shares(0, 1), 0);
        due("c 2", x.shares(0, 2), 1);
        due("c 1000", x.shares(0, 1000), NONE);
        due("c -1", x.shares(0, -1), NONE);
        x = port("sd2;kv1n0;p;p;p;p;p;p");
        passes(x, 2);
        due("a sixth of twelve", x.shares(5, 12), 2);
        x = port("sd30;kv9n0;po9;po9;po9;po9;po9;po9");
        goes(x, 900);
        due("six full purses", x.person(0, 3) + x.person(5, 3), 2 * 9999);
        due("a sixth", x.shares(5, 999), 166);
    }

    private static void didAndAll() {
        at = "DID of a DAY of this year that is over";
        DarkestDay x = port("sd30;k;k;k;k;k;k;ph5;ph5;ph5;ph5;ph5;ph5");
        due("none is over", x.did(0, 5), NONE);
        passes(x, 29);
        due("all of six", x.did(28, 5), 63);
        due("the first day", x.did(0, 5), 63);
        due("of another kind", x.did(28, 4), 0);
        due("not over", x.did(29, 5), NONE);
        due("LEFT", x.all(6), 1);
        x.pass();
        due("of the year ahead", x.did(28, 5), NONE);
        due("of the year ahead", x.did(0, 5), NONE);
        due("LEFT", x.all(6), 30);
        due("DARK: none", x.all(5), NONE);
        x.pass();
        due("DARK", x.all(5), 0);
        at = "RICHEST, MOST OBSTINATE, BEST (of several the lowest)";
        x = port("kv8;kv9;k;k;k;kv9;po8;po8;po8;po8;po8;po9");
        due("best", x.all(2), 1);
        due("the last is most obstinate", x.all(1), 5);
        due("all have nothing", x.all(0), 0);
        x = port("kv0n0;k;k;k;k;kv9n0;p;p;p;p;p;ph5");
        x.pass();
        due("the last is richest", x.all(0), 5);
        x = port("k;k;k;k;k;kv4;p;p");
        due("the last is best", x.all(2), 5);
        due("of two alike the first", x.all(0) + x.all(1), 0);
        at = "IDLE: who are UP but for whose HABIT the DAY to come has too little LIGHT";
        x = port("kn4;kn5;p;ph1;p;ph1b1;p;ph1", "y:4");
        due("two of three", x.all(4), 34);
        due("up", x.all(3), 55);
    }

    // ---- draws

    private static long drawn;

    private static int draw(int many) {
        drawn = drawn * 6364136223846793005L + 1442695040888963407L;
        return (int) ((drawn >>> 33) % many);
    }

    private static void draws() {
        at = "YEARS by a seed: x (64 bits, going round); a draw: x shifted right by 33, without sign";
        long[] seeds = {0, 1, -1, 2, Long.MIN_VALUE, Long.MAX_VALUE, Long.MIN_VALUE + 1, 1L << 33, -(1L << 33),
            0xFFFFFFFFL, -6364136223846793005L, 1442695040888963407L};
        for (long seed : seeds) {
            drawnDays(seed, 29, 2);
            drawnDays(seed, 1, 9);
        }
        for (int seed = 0; seed < 30; seed++) {
            drawnDays(seed * 0x9E3779B97F4A7C15L, 29, seed % 10);
        }
        at = "YEARS: n (1 .. 60)";
        DarkestDay x = port("sd30;k;p;p");
        due("0", x.years(0, 1), NONE);
        due("61", x.years(61, 1), NONE);
        due("60", x.years(60, 1), 0);
        due("two years", x.count(7), 2);
        due("1", x.years(1, 1), 1);
    }

    private static void drawnDays(long seed, int days, int whim) {
        // A light of fog and 1 shows the fog of each day, a light of 0 the eclipse.
        DarkestDay x = port("sd30t0;k;k;k;k;k;p;p;p;p;p;pb1", "y:f+1");
        if (whim != 2) {
            due("whim", x.whim(whim), true);
        }
        due("the day", x.years(days, seed), days);
        drawn = seed;
        int[] habits = new int[6];
        int fog = 0;
        for (int day = 0; day < days; day++) {
            fog = draw(10);
            if (draw(10) < whim) {
                int person = draw(6);
                habits[person] = draw(5);
            }
            boolean eclipse = draw(100) < 3;
            due("light of day " + day + " by " + seed, x.light(day), eclipse ? 0 : fog + 1);
        }
        due("the latest fog", x.count(10), fog);
        for (int i = 0; i < 6; i++) {
            due("habit of " + i + " by " + seed, x.person(i, 0), habits[i]);
        }
        due("each day is one act", x.count(16), days);
        due("no eclipse stays", x.count(11), 0);
        statuses(x, 0, 0, 0, 0, 0);
    }

    private static void images() {
        at = "an IMAGE (instead of the one ahead); BACK: no ACT can be UNDONE then";
        DarkestDay x = new DarkestDay();
        due("without a seaport", x.image(), NONE);
        due("without a seaport", x.back(), NONE);
        tell(x, SEAPORT, "sd30;k;p;p");
        due("without an image", x.back(), NONE);
        due("at the start", x.image(), 0);
        passes(x, 29);
        due("back to it", x.back(), 0);
        passes(x, 29);
        due("at the last day", x.image(), 29);
        due("of 40 acts", x.count(16), 29);
        passes(x, 2);
        due("back to it", x.back(), 29);
        due("none can be undone", x.undo(), NONE);
        due("the year", x.count(7), 0);
        x.pass();
        due("the year", x.count(7), 1);
        due("undo", x.undo(), 0);
        due("the image stays", x.back(), 29);
    }
}
