/** For each promise of the document: ordinary calls, the edges that it names, and wrong calls. */
public final class PromiseTests extends Checks {
    /* Four days of light 8, 6, 4, 6; two kinds; three persons, of whom the third does the second kind. */
    private static final String FOUR_DAYS = "sd4t20f0;kv3n4;kv5n6;ph0o1;ph0o5;ph1o2";

    public static void main(String[] args) {
        textPromises();
        countPromises();
        actPromises();
        calendarPromises();
        aheadPromises();
        seenPromises();
        gamePromises();
        lastPromises();
        finish("PromiseTests");
    }

    // ---- promises 1 to 5: the tape and its texts

    private static void textPromises() {
        at = "promise 1";
        DarkestDay x = new DarkestDay();
        int[] fresh = {0, 0, 0, 0, 0, 0, NONE, 0, 0, 0, 0, 0, 0, 2, 0, 0, 0};
        for (int i = 0; i < fresh.length; i++) {
            due("count(" + i + ")", x.count(i), fresh[i]);
        }
        due("all(3)", x.all(3), HIDDEN);
        statuses(x, 0, 0, 0, 0, 0);

        at = "promise 2";
        due("feed", x.feed(0x6B3B0070, 0, 0x3B700000, 0, 0x20), 6);
        due("fault", x.fault(SEAPORT), NONE);
        due("feed of nothing", x.feed(0, 0, 0, 0, 0), 6);
        for (int i = 1; i <= 11; i++) {
            due("feed", x.feed(-1, -1, -1, -1, -1), 6 + 20 * i);
        }
        due("feed of too much", x.feed(-1, -1, -1, 0x01010100, 0), NONE);
        due("nothing came", x.count(5), 226);
        due("feed up to the brim", x.feed(-1, -1, -1, 0x01010000, 0), 240);
        due("feed of one too many", x.feed(0, 0, 0, 0, 1), NONE);
        due("feed of nothing", x.feed(0, 0, 0, 0, 0), 240);

        at = "promise 3";
        due("end(241)", x.end(241), false);
        due("end(-1)", x.end(-1), false);
        due("end(240)", x.end(240), true);
        due("end(6)", x.end(6), true);
        due("bytes", x.count(5), 6);
        due("fault", x.fault(SEAPORT), NONE);
        due("end(7)", x.end(7), false);
        due("end(3)", x.end(3), true);
        due("fault", x.fault(SEAPORT), 3);

        at = "promise 4";
        due("fault(3)", x.fault(3), -2);
        due("fault(-1)", x.fault(-1), -2);
        seaportFaults();
        lawFaults();
        calendarFaults();

        at = "promise 5";
        texts();
    }

    private static void seaportFaults() {
        fault(SEAPORT, "k;p;p", NONE);
        fault(SEAPORT, "p h 0 o 9 b 1 ; s d 30 t 99 f 9 ; p ; k v 9 n 30 ", NONE);
        fault(SEAPORT, "k;k;k;k;k;k;p;p;p;p;p;ph5;s", NONE);
        fault(SEAPORT, "", 0);
        fault(SEAPORT, "  ", 2);
        fault(SEAPORT, "k;p", 3);
        fault(SEAPORT, "p;p", 3);
        fault(SEAPORT, "k;p;p;", 6);
        fault(SEAPORT, "k;p;ph1 ", 8);
        fault(SEAPORT, "ph1;p;k;k", NONE);
        fault(SEAPORT, "s;k;s", 4);
        fault(SEAPORT, "k;k;k;k;k;k;k", 12);
        fault(SEAPORT, "p;p;p;p;p;p;p", 12);
        fault(SEAPORT, "x", 0);
        fault(SEAPORT, "k;;p", 2);
        fault(SEAPORT, "kp", 1);
        fault(SEAPORT, "kh1", 1);
        fault(SEAPORT, "kv1v2", 3);
        fault(SEAPORT, "kv", 2);
        fault(SEAPORT, "kv;", 2);
        fault(SEAPORT, "sd2;p;k;p", NONE);
        fault(SEAPORT, "sd1;k", 2);
        fault(SEAPORT, "sd01;k", 3);
        fault(SEAPORT, "sd31", 3);
        fault(SEAPORT, "sd310", 4);
        fault(SEAPORT, "sd008", 4);
        fault(SEAPORT, "st99f10", 6);
        fault(SEAPORT, "kn31", 3);
        fault(SEAPORT, "kv1 0;p;p", 4);
        fault(SEAPORT, "kv10", 3);
        fault(SEAPORT, "po10", 3);
        fault(SEAPORT, "pb2", 2);
        fault(SEAPORT, "ph6", 2);
        fault(SEAPORT, "k;p;p\u00fe", 5);
    }

    private static void lawFaults() {
        fault(LAW, "y:1", NONE);
        fault(LAW, " y : i + [ d - f ] * 2 / 1 ", NONE);
        fault(LAW, "y:i=1?2;y:u<y&r>9999|d=d?3;y:0", NONE);
        fault(LAW, "y:!!(i=1|!(d=2))&f=3?1", NONE);
        fault(LAW, "y:[i]=[d]?[f]", NONE);
        fault(LAW, "", 0);
        fault(LAW, "x", 0);
        fault(LAW, "y", 1);
        fault(LAW, "y1", 1);
        fault(LAW, "y:", 2);
        fault(LAW, "y:x", 2);
        fault(LAW, "y:1;", 4);
        fault(LAW, "y:1;1", 4);
        fault(LAW, "y:12345", 6);
        fault(LAW, "y:12 34", 5);
        fault(LAW, "y:i>1", 5);
        fault(LAW, "y:i>1;", 5);
        fault(LAW, "y:i>1>2", 5);
        fault(LAW, "y:i?1", 3);
        fault(LAW, "y:i&d=1?1", 3);
        fault(LAW, "y:i=1?d=2", 7);
        fault(LAW, "y:i=1?!", 6);
        fault(LAW, "y:i=1?2?3", 7);
        fault(LAW, "y:(i)=1?2", 4);
        fault(LAW, "y:(i=1", 6);
        fault(LAW, "y:(i=1?2", 6);
        fault(LAW, "y:(i=1)", 7);
        fault(LAW, "y:(i=1)=1?2", 7);
        fault(LAW, "y:(i=1)+1?2", 7);
        fault(LAW, "y:i=1)?2", 5);
        fault(LAW, "y:[i=1]?2", 4);
        fault(LAW, "y:[i", 4);
        fault(LAW, "y:i]", 3);
        fault(LAW, "y:[(i=1)]", 3);
        fault(LAW, "y:i=1&?2", 6);
        fault(LAW, "y:(i=1)&d?2", 9);
        fault(LAW, "y:!i?2", 4);
        fault(LAW, "y:!!!!!!i=1?2", NONE);
        fault(LAW, "y:!!!!!!!i=1?2", 8);
        fault(LAW, "y:[[[[[[1]]]]]]", NONE);
        fault(LAW, "y:[[[[[[[1]]]]]]]", 8);
        fault(LAW, "y:((((((i=1))))))?2", NONE);
        fault(LAW, "y:(((((((i=1)))))))?2", 8);
        fault(LAW, "y:!(!(![1]=1))?1", NONE);
        fault(LAW, "y:!(!(![[1]]=1))?1", 8);
        fault(LAW, "y:!!!!!!i=1&!!!!!!i=2?[[[[[[3]]]]]]", NONE);
        fault(LAW, "y:!!!!!i=[1]&![2]=[[[[[3]]]]]?1", NONE);
        fault(LAW, "y:!!!!!i=[[1]]?1", 10);
    }

    private static void calendarFaults() {
        String twenty = "d;d;d;d;d;d;d;d;d;d;d;d;d;d;d;d;d;d;d;d";
        fault(CALENDAR, "d", NONE);
        fault(CALENDAR, " h 0 1 ; b9 ;f0;e;c 0", NONE);
        fault(CALENDAR, twenty, NONE);
        fault(CALENDAR, twenty + ";d", 39);
        fault(CALENDAR, twenty + ";", 39);
        fault(CALENDAR, "", 0);
        fault(CALENDAR, "a", 0);
        fault(CALENDAR, "d;", 2);
        fault(CALENDAR, "d1", 1);
        fault(CALENDAR, "h1", 2);
        fault(CALENDAR, "h1;", 2);
        fault(CALENDAR, "h123", 3);
        fault(CALENDAR, "b", 1);
        fault(CALENDAR, "f12", 2);
        fault(CALENDAR, "e0", 1);
        fault(CALENDAR, "cd", 1);
    }

    private static void texts() {
        DarkestDay x = new DarkestDay();
        fill(x, "k;p;p");
        due("text(3)", x.text(3), NONE);
        due("text(-1)", x.text(-1), NONE);
        due("the tape", x.count(5), 5);
        for (int i = 0; i < 4; i++) {
            due("a law", tell(x, LAW, "y:" + i), i);
            due("a calendar", tell(x, CALENDAR, "b" + i), i);
        }
        due("a fifth law", tell(x, LAW, "y:4"), NONE);
        due("the tape", x.count(5), 3);
        due("a fifth calendar", tell(x, CALENDAR, "d"), NONE);
        due("the tape", x.count(5), 1);
        due("the first law", x.law(0) ? tell(x, SEAPORT, FOUR_DAYS) : 0, 3);
        due("its light", x.light(1), 0);
        due("the second calendar", x.step(1, 0, 1), 1);
        x.whim(7);
        x.seen(1, 2, true);
        x.fog(3);
        x.habit(0, 9);
        x.image();
        passes(x, 6);
        due("what is wrong", tell(x, SEAPORT, "k;p"), NONE);
        due("the day", x.count(8), 2);
        due("another", tell(x, SEAPORT, "k;p;po9b1;ph0"), 3);
        int[] want = {3, 1, 8, 4, 4, 0, 0, 0, 0, 20, 0, 0, 0, 7, 0, 0, 0};
        for (int i = 0; i < want.length; i++) {
            due("count(" + i + ")", x.count(i), want[i]);
        }
        due("back", x.back(), NONE);
        due("the governor", x.all(8), NONE);
        due("voices", x.kind(0, 2), 0);
        due("purse", x.person(0, 3), 0);
        due("status(0)", x.status(0), 1);
        due("usual v", x.kind(0, 0), 3);
        due("usual n", x.kind(0, 1), 4);
        due("usual o", x.person(0, 1), 2);
        due("told b", x.person(1, 2), 1);
        DarkestDay y = port("sd2t7f5;k;p;pb1");
        int[] told = {2, 1, 2, 0, 0, 0, NONE, 0, 0, 7, 5, 0, 0, 2, 0, 0, 0};
        for (int i = 0; i < told.length; i++) {
            due("count(" + i + ") as told", y.count(i), told[i]);
        }
    }

    // ---- promises 6 to 9

    private static void countPromises() {
        at = "promise 6";
        DarkestDay x = port(FOUR_DAYS);
        int[][] want = {{3, 4, 0, 3}, {5, 6, 0, 4}};
        for (int k = 0; k < 2; k++) {
            for (int i = 0; i < 4; i++) {
                due("kind(" + k + ", " + i + ")", x.kind(k, i), want[k][i]);
            }
        }
        x.habit(1, 1);
        due("party", x.kind(1, 3), 6);
        x.bed(1);
        due("party with one in bed", x.kind(1, 3), 6);
        x.bed(1);
        passes(x, 4);
        due("voices", x.kind(1, 2), 2);
        due("voices", x.kind(0, 2), 1);
        due("what it brings is as told", x.kind(1, 0), 5);
        due("kind(2, 0)", x.kind(2, 0), HIDDEN);
        due("kind(-1, 0)", x.kind(-1, 0), HIDDEN);
        due("kind(0, 4)", x.kind(0, 4), HIDDEN);
        due("kind(0, -1)", x.kind(0, -1), HIDDEN);

        at = "promise 7";
        x = port("k;k;ph1o7b1;p");
        int[][] persons = {{1, 7, 1, 0}, {0, 2, 0, 0}};
        for (int p = 0; p < 2; p++) {
            for (int i = 0; i < 4; i++) {
                due("person(" + p + ", " + i + ")", x.person(p, i), persons[p][i]);
            }
        }
        x.pass();
        due("purse of one up", x.person(1, 3), 3);
        due("purse of one in bed", x.person(0, 3), 0);
        throwsIt(x, 2, 0);
        throwsIt(x, -1, 0);
        throwsIt(x, 0, 4);
        throwsIt(x, 0, -1);
        throwsIt(new DarkestDay(), 0, 0);

        at = "promise 8";
        lawsHold();

        at = "promise 9";
        x = new DarkestDay();
        due("whim(2)", x.whim(2), false);
        due("whim(10)", x.whim(10), false);
        due("whim(-1)", x.whim(-1), false);
        due("whim(9)", x.whim(9), true);
        due("whim(9)", x.whim(9), false);
        due("whim(0)", x.whim(0), true);
        due("WHIM", x.count(13), 0);
        statuses(x, 0, 0, 0, 0, 0);
    }

    private static void lawsHold() {
        DarkestDay x = port(FOUR_DAYS);
        tell(x, LAW, "y:i*2");
        tell(x, LAW, "y:50");
        due("none holds", x.light(0), 8);
        due("law(2)", x.law(2), false);
        due("law(-2)", x.law(-2), false);
        due("law(1)", x.law(1), true);
        due("law(1) again", x.law(1), true);
        due("light", x.light(3), 50);
        due("law(0)", x.law(0), true);
        due("light", x.light(3), 6);
        due("the law", x.count(6), 0);
        due("law(NONE)", x.law(NONE), true);
        due("light", x.light(0), 8);
        due("acts", x.count(16), 0);
        // Six days, fog 3, two of three up, asked for day 4.
        due("letters", worth("y:i+d*10"), 64);
        due("fog and those up", worth("y:f*10+u"), 32);
        due("year and voices", worth("y:7+y+r"), 7);
        due("* ahead of +", worth("y:2+3*4-1"), 13);
        due("from the left", worth("y:20-5-3"), 12);
        due("from the left", worth("y:40/5/2*3"), 12);
        due("brackets", worth("y:[2+3]*[4-1]"), 15);
        due("cut towards 0", worth("y:9-7/2"), 6);
        due("cut towards 0 below it", worth("y:9+[0-7]/2"), 6);
        due("by 0", worth("y:5+7/[i-4]"), 5);
        due("below 0", worth("y:3-9"), 0);
        due("above 99", worth("y:9999"), 99);
        due("held at the top", worth("y:9999*9999-9999*100"), 99);
        due("held at the top, exactly", worth("y:9999*9999-9999*100-99+7"), 8);
        due("held at the bottom", worth("y:0-9999*9999+9999*100+99+7"), 6);
        due("held at the bottom by *", worth("y:[0-9999]*9999+9999*100+99+7"), 6);
        due("the first that holds", worth("y:i=3?1;y:i=4?2;y:3"), 2);
        due("none holds", worth("y:i=3?1;y:i<4?2"), 0);
        due("without a condition", worth("y:1;y:i=4?2"), 1);
        due("<", worth("y:i<5?1;y:2") * 10 + worth("y:i<4?1;y:2"), 12);
        due(">", worth("y:i>3?1;y:2") * 10 + worth("y:i>4?1;y:2"), 12);
        due("=", worth("y:i=4?1;y:2") * 10 + worth("y:i=5?1;y:2"), 12);
        due("& ahead of |", worth("y:1=1|1=2&1=2?1;y:2"), 1);
        due("( ahead of &", worth("y:(1=1|1=2)&1=2?1;y:2"), 2);
        due("! of a unit alone", worth("y:!1=1|1=1?1;y:2"), 1);
        due("! of all in (", worth("y:!(1=1|1=1)?1;y:2"), 2);
        due("! of !", worth("y:!!1=1&!1=2?1;y:2"), 1);
        due("sums ahead of <", worth("y:1+2*3<8-[1-1]?1;y:2"), 1);
    }

    // ---- promises 10 to 20: acts

    private static void actPromises() {
        at = "promise 10";
        passing();
        at = "promise 11";
        DarkestDay x = port("st2;k;k;p;ph1");
        due("habit(0, 1)", x.habit(0, 1), 0);
        due("habit(0, 0)", x.habit(0, 0), 1);
        due("no coin and so", x.habit(0, 0), NONE);
        due("no coin", x.habit(0, 1), NONE);
        due("no person", x.habit(2, 1), NONE);
        due("no person", x.habit(-1, 1), NONE);
        due("no kind", x.habit(0, 2), NONE);
        due("no kind", x.habit(0, -1), NONE);
        statuses(x, 4, 0, 1, 1, 0);
        due("treasury", x.count(9), 0);
        x = port("st1;k;k;p;pb1");
        due("habit of one in bed", x.habit(1, 1), 0);
        due("the coin", x.count(9), 0);

        at = "promise 12";
        due("bed(0)", x.bed(0), 1);
        due("bed(1)", x.bed(1), 0);
        due("bed(1)", x.bed(1), 1);
        due("bed(2)", x.bed(2), NONE);
        due("bed(-1)", x.bed(-1), NONE);
        statuses(x, 2, 0, 0, 0, 0);
        due("up", x.all(3), 0);
        due("for nothing", x.count(9), 0);
        due("without a seaport", new DarkestDay().bed(0), NONE);

        at = "promise 13";
        x = port("sf4t0;k;p;p");
        due("fog(9)", x.fog(9), 4);
        due("fog(9)", x.fog(9), NONE);
        due("fog(10)", x.fog(10), NONE);
        due("fog(-1)", x.fog(-1), NONE);
        due("fog(0)", x.fog(0), 9);
        due("light", x.light(0), 12);
        statuses(x, 0, 2, 1, 0, 0);
        due("without a seaport", new DarkestDay().fog(1), NONE);

        at = "promise 14";
        x = port("st19;k;p;p");
        due("eclipse", x.eclipse(), 9);
        due("light", x.light(0), 0);
        due("the next light", x.light(1), 10);
        due("again, and too few coins", x.eclipse(), NONE);
        due("pass", x.pass(), 0);
        x.give(1);
        due("it is over", x.count(11), 0);
        due("the next day", x.eclipse(), 0);
        due("undo", x.undo(), 3);
        due("too few", port("st9;k;p;p").eclipse(), NONE);
        statuses(x, 0, 0, 1, 0, 0);
        x = port("st9;k;p;p");
        x.eclipse();
        statuses(x, 0, 0, 0, 1, 0);
        due("ten coins", port("st10;k;p;p").eclipse(), 0);

        at = "promise 15";
        candleActs();
        at = "promise 16";
        gifts();
        at = "promise 17";
        drawnYears();
        at = "promise 18";
        x = new DarkestDay();
        due("status(5)", x.status(5), NONE);
        due("status(-1)", x.status(-1), NONE);
        x.pass();
        x.give(0);
        due("the first reason counts", x.status(0), 2);
        due("and it alone", x.status(1), 0);
        at = "promise 19";
        undoing();
        at = "promise 20";
        logs();
    }

    private static void passing() {
        DarkestDay x = new DarkestDay();
        due("without a seaport", x.pass(), NONE);
        due("status(0)", x.status(0), 1);
        x = port(FOUR_DAYS);
        due("the first day", x.pass(), 8);
        due("treasury", x.count(9), 31);
        due("the second day", x.pass(), 6);
        due("treasury", x.count(9), 42);
        due("the third day is too dark for the second kind", x.pass(), 4);
        due("treasury", x.count(9), 48);
        due("its purse", x.person(2, 3), 10);
        due("the last day", x.pass(), 6);
        due("the year", x.count(7), 1);
        due("the day", x.count(8), 0);
        due("the governor", x.all(8), 0);
        due("voices", x.kind(0, 2) * 10 + x.kind(1, 2), 21);
        due("no more obstinate than it has voices", x.person(2, 0), 0);
        due("with voices it brings more", x.pass() + x.count(9), 8 + 59 + 3 * 5);

        x = port("sd2t0;k;kv0;po3;po3b1;ph1o2b1");
        passes(x, 2);
        due("more obstinate than one voice", x.person(1, 0) + x.person(2, 0), 1);
        x.bed(1);
        passes(x, 2);
        due("in bed, too", x.person(2, 0), 0);
        due("two voices", x.kind(0, 2), 2);

        x = port("sd2;k;kn0;ph1;p");
        passes(x, 2);
        due("of several the lowest governs", x.all(8), 0);
        x = port("sd2;k;k;ph1b1;pb1");
        passes(x, 2);
        due("nobody governs", x.all(8), NONE);
        due("and nobody is swayed", x.person(0, 0), 1);
        due("the log has none", x.log(0, 2), NONE);

        x = port("sd2t99;kv9n0;p;p;p;p;p;p");
        x.years(60, 1);
        due("at most", x.count(9), 999);
        for (int i = 0; i < 32; i++) {
            x.years(60, i);
        }
        due("the purse", x.person(5, 3), 9999);
        due("the year", x.count(7), 990);
        x.years(18, 1);
        due("the last year", x.count(7), 999);
        due("pass", x.pass() >= 0, true);
        due("the last day never passes", x.pass(), NONE);
        due("status(4)", x.status(4), 1);
        due("the day", x.count(8), 1);

        x = port("sd2f9;kv1n0;p;p");
        tell(x, LAW, "y:i+1");
        x.law(0);
        x.pass();
        tell(x, LAW, "y:1");
        x.law(1);
        x.pass();
        due("of several the first is ruler", x.log(0, 0), 0);
        due("written down, whichever law holds", x.log(0, 1), 1);
    }

    private static void candleActs() {
        DarkestDay x = port("st18;kv0;p;p");
        due("candles(0)", x.candles(0), NONE);
        due("candles(10)", x.candles(10), NONE);
        due("candles(9)", x.candles(9), 9);
        due("light", x.light(0), 30);
        due("the next light", x.light(1), 10);
        due("treasury", x.count(9), 9);
        due("candles(9)", x.candles(9), 18);
        due("too few coins", x.candles(1), NONE);
        x.give(50);
        due("more than 20", x.candles(3), NONE);
        due("20", x.candles(2), 20);
        statuses(x, 0, 2, 0, 2, 0);
        due("pass", x.pass(), 52);
        due("they are over", x.count(12), 0);
        tell(x, LAW, "y:98");
        x.law(0);
        x.candles(1);
        due("99 at most", x.light(1), 99);
        tell(x, LAW, "y:0-9");
        x.law(1);
        due("more than nothing", x.light(1), 2);
        x.eclipse();
        due("not in an eclipse", x.light(1), 0);
        due("without a seaport", new DarkestDay().candles(1), NONE);
    }

    private static void gifts() {
        DarkestDay x = port("st99;k;p;p");
        due("give(0)", x.give(0), NONE);
        due("give(51)", x.give(51), NONE);
        due("give(50)", x.give(50), 149);
        for (int i = 0; i < 17; i++) {
            x.give(50);
        }
        due("above 999", x.give(1), NONE);
        statuses(x, 0, 2, 0, 1, 0);
        due("treasury", x.count(9), 999);
        due("without a seaport", new DarkestDay().give(1), NONE);
    }

    private static void drawnYears() {
        DarkestDay x = port("sd5;k;k;k;p;ph1;ph2;p");
        x.whim(9);
        due("years(0)", x.years(0, 1), NONE);
        due("years(61)", x.years(61, 1), NONE);
        due("without a seaport", new DarkestDay().years(1, 1), NONE);
        long seed = 20261118;
        int[] draws = new int[4];
        int[] of = {10, 10, 4, 3};
        for (int i = 0; i < 4; i++) {
            seed = seed * 6364136223846793005L + 1442695040888963407L;
            draws[i] = (int) ((seed >>> 33) % of[i]);
        }
        due("years", x.years(1, 20261118), 1);
        due("the fog drawn", x.count(10), draws[0]);
        if (draws[1] < 9) {
            due("the habit drawn", x.person(draws[2], 0), draws[3]);
        }
        due("one act", x.count(16), 1);
        due("years", x.years(7, 5), 3);
        due("an act each", x.count(16), 8);
        due("the year", x.count(7), 1);
        due("undo", x.undo(), 7);
        due("the day ahead", x.count(8), 2);
        statuses(x, 0, 0, 0, 0, 0);
        // With an eclipse the day's light is 0; so many days have one among them, and other light, too.
        x = port("sd30t0;kn0;p;p");
        tell(x, LAW, "y:50");
        x.law(0);
        boolean dark = false;
        boolean lit = false;
        for (int i = 0; i < 8; i++) {
            x.years(29, i);
            for (int day = 0; day < 29; day++) {
                dark |= x.light(day) == 0;
                lit |= x.light(day) == 50;
            }
            x.pass();
        }
        due("eclipses for nothing", dark && lit, true);
        x = port("sd2;k;p;p");
        for (int i = 0; i < 33; i++) {
            x.years(60, i);
        }
        due("beyond the last year", x.years(20, 1), NONE);
        due("the year", x.count(7), 990);
        due("up to its last day", x.years(19, 1), 1);
        due("none more", x.years(1, 1), NONE);
        statuses(x, 0, 0, 0, 0, 0);
    }

    private static void undoing() {
        DarkestDay x = port(FOUR_DAYS);
        due("none", x.undo(), NONE);
        x.fog(3);
        x.fog(3);
        x.habit(0, 1);
        x.bed(1);
        x.eclipse();
        x.candles(2);
        x.give(5);
        x.pass();
        due("acts", x.count(16), 7);
        due("undo", x.undo(), 6);
        due("eclipse and candles are there again", x.count(11) * 10 + x.count(12), 12);
        due("purse", x.person(0, 3), 0);
        due("undo", x.undo(), 5);
        due("treasury", x.count(9), 7);
        due("undo", x.undo(), 4);
        due("candles", x.count(12), 0);
        due("undo", x.undo(), 3);
        due("eclipse", x.count(11), 0);
        due("undo", x.undo(), 2);
        due("up", x.all(3), 7);
        due("undo", x.undo(), 1);
        due("habit", x.person(0, 0), 0);
        due("undo", x.undo(), 0);
        due("fog", x.count(10), 0);
        due("undo", x.undo(), NONE);
        due("status stays", x.status(2), 1);
        passes(x, 4);
        due("the log", x.count(15), 1);
        x.undo();
        due("the log is undone, too", x.count(15), 0);
        due("what was written down stands", x.did(2, 1) * 10 + x.light(2), 44);
        due("habits", x.person(2, 0), 1);
        due("voices", x.kind(0, 2), 0);
        for (int i = 0; i < 50; i++) {
            x.bed(0);
        }
        due("the latest 40", x.count(16), 40);
        for (int i = 39; i >= 0; i--) {
            due("undo", x.undo(), i);
        }
        due("undo", x.undo(), NONE);
        due("ten stay done", x.all(3), 7);
    }

    private static void logs() {
        DarkestDay x = port("sd2t0;kn0;kn9;po9;po9");
        due("none yet", x.log(0, 0), HIDDEN);
        passes(x, 2);
        x.fog(4);
        x.habit(0, 1);
        x.habit(1, 1);
        passes(x, 2);
        due("ruler", x.log(0, 0), 1);
        due("light", x.log(0, 1), 0);
        due("governor", x.log(0, 2), 1);
        due("the one ahead", x.log(1, 1) * 10 + x.log(1, 2), 40);
        due("log(2, 0)", x.log(2, 0), HIDDEN);
        due("log(-1, 0)", x.log(-1, 0), HIDDEN);
        due("log(0, 3)", x.log(0, 3), HIDDEN);
        due("log(0, -1)", x.log(0, -1), HIDDEN);
        x.fog(0);
        passes(x, 118);
        due("60 years", x.count(15), 60);
        due("the oldest", x.log(59, 1), 0);
        passes(x, 2);
        due("60 years", x.count(15), 60);
        due("the oldest is another", x.log(59, 1), 4);
        due("log(60, 0)", x.log(60, 0), HIDDEN);
        x.undo();
        due("there again", x.log(59, 1), 0);
        due("without a seaport", new DarkestDay().log(0, 0), HIDDEN);
    }

    // ---- promises 21 to 23: calendars

    private static void calendarPromises() {
        at = "promise 21";
        DarkestDay x = new DarkestDay();
        tell(x, CALENDAR, "d;h12;b3;f4;e;c5");
        int[][] want = {{0, NONE, NONE}, {1, 1, 2}, {2, 3, NONE}, {3, 4, NONE}, {4, NONE, NONE}, {5, 5, NONE}};
        for (int i = 0; i < 6; i++) {
            for (int j = 0; j < 3; j++) {
                due("step(0, " + i + ", " + j + ")", x.step(0, i, j), want[i][j]);
            }
        }
        due("step(1, 0, 0)", x.step(1, 0, 0), HIDDEN);
        due("step(-1, 0, 0)", x.step(-1, 0, 0), HIDDEN);
        due("step(0, 6, 0)", x.step(0, 6, 0), HIDDEN);
        due("step(0, -1, 0)", x.step(0, -1, 0), HIDDEN);
        due("step(0, 0, 3)", x.step(0, 0, 3), HIDDEN);
        due("step(0, 0, -1)", x.step(0, 0, -1), HIDDEN);

        at = "promise 22";
        due("without a seaport", x.run(0, 0), HIDDEN);
        tell(x, SEAPORT, FOUR_DAYS);
        tell(x, CALENDAR, "d;c4;h01;e;d;b2;f1;d;d");
        due("all can be", x.run(1, 0), NONE);
        due("treasury behind it", x.run(1, 1), 11 - 4 - 1 - 10 + 3);
        due("the second can't be", x.run(0, 0), 1);
        due("behind the first", x.run(0, 1), 11);
        due("as it is", x.count(8) + x.count(16), 0);
        tell(x, CALENDAR, "e;e;d");
        due("it is so", x.run(2, 0), 1);
        due("less", x.run(2, 1), -10);
        tell(x, CALENDAR, "c9;c9;c3");
        due("too many candles", x.run(3, 0), 2);
        due("run(4, 0)", x.run(4, 0), HIDDEN);
        due("run(-1, 0)", x.run(-1, 0), HIDDEN);
        due("run(0, 2)", x.run(0, 2), HIDDEN);
        due("run(0, -1)", x.run(0, -1), HIDDEN);
        statuses(x, 0, 0, 0, 0, 0);
        x = port("sd2t9;kv0;p;p");
        for (String steps : new String[] {"f0;d", "c0;d", "h00;d", "e"}) {
            due("a calendar", tell(x, CALENDAR, steps) >= 0, true);
        }
        for (int i = 0; i < 4; i++) {
            due("can't be", x.run(i, 0), 0);
        }
        x = port("sd2t9;kv0;p;p");
        tell(x, CALENDAR, "d;d;d");
        for (int i = 0; i < 33; i++) {
            x.years(60, i);
        }
        x.years(17, 1);
        due("up to the last year", x.run(0, 0), 2);

        at = "promise 23";
        x = port(FOUR_DAYS);
        tell(x, CALENDAR, "d;c4;h01;e;d;b9;d");
        due("perform", x.perform(0), 5);
        due("acts", x.count(16), 5);
        due("the day", x.count(8), 2);
        due("lights", x.light(0) * 10 + x.light(1), 80);
        due("treasury", x.count(9), 20 + 11 - 4 - 1 - 10);
        statuses(x, 0, 0, 0, 0, 0);
        due("undo", x.undo(), 4);
        due("perform(1)", x.perform(1), NONE);
        due("perform(-1)", x.perform(-1), NONE);
        x = new DarkestDay();
        tell(x, CALENDAR, "d");
        due("without a seaport", x.perform(0), NONE);
    }

    // ---- promises 24 to 31: what is to come

    private static void aheadPromises() {
        at = "promise 24";
        DarkestDay x = port(FOUR_DAYS);
        due("light(0)", x.light(0), 8);
        due("light(3)", x.light(3), 6);
        due("light(4)", x.light(4), NONE);
        due("light(-1)", x.light(-1), NONE);
        x.pass();
        x.fog(5);
        due("as written down", x.light(0), 8);
        due("with fog", x.light(1), 1);
        due("not below 0", x.light(2), 0);
        due("without a seaport", new DarkestDay().light(0), NONE);
        due("half is cut", port("sd5;k;p;p").light(4), 8);

        at = "promise 25";
        due("the first of several", x.coming(0), 2);
        due("its light", x.coming(1), 0);
        x.fog(0);
        x.eclipse();
        due("the day with the eclipse", x.coming(0), 1);
        x.pass();
        due("though it is over", x.coming(0), 1);
        due("coming(2)", x.coming(2), NONE);
        due("coming(-1)", x.coming(-1), NONE);
        due("without a seaport", new DarkestDay().coming(0), NONE);

        at = "promise 26";
        x = port(FOUR_DAYS);
        due("may(0)", x.may(0), 4);
        due("may(1)", x.may(1), 14);
        due("may(2)", x.may(2), 15);
        x.pass();
        x.fog(4);
        due("may(0)", x.may(0), 4);
        due("may(3)", x.may(3), 14);
        due("may(4)", x.may(4), 15);
        due("may(21)", x.may(21), NONE);
        due("may(-1)", x.may(-1), NONE);
        due("may(20)", x.may(20), 15);
        due("without a seaport", new DarkestDay().may(0), NONE);

        at = "promise 27";
        governing();
        at = "promise 28";
        rounds();
        at = "promise 29";
        swinging();
        at = "promise 30";
        inBed();
        at = "promise 31";
        coins();
    }

    private static void governing() {
        // The first kind takes all by two voices; before that the third person does the second kind.
        DarkestDay x = port(FOUR_DAYS);
        due("now", x.governs(0), NONE);
        due("governs(1)", x.governs(1), 0);
        due("governs(60)", x.governs(60), 0);
        due("governs(61)", x.governs(61), HIDDEN);
        due("governs(-1)", x.governs(-1), HIDDEN);
        due("without a seaport", new DarkestDay().governs(0), HIDDEN);
        x.eclipse();
        x.pass();
        x.habit(0, 1);
        x.habit(1, 1);
        due("by the day that is over", x.governs(1), 0);
        due("two years on", x.governs(2), 0);
        x.undo();
        x.undo();
        x.undo();
        x.undo();
        x.bed(0);
        x.bed(1);
        due("of those up", x.governs(1), 1);
        x.bed(2);
        due("nobody", x.governs(1), NONE);
        due("it is as it was", x.count(7) + x.count(8), 0);
        x = port("sd2;k;p;p");
        for (int i = 0; i < 33; i++) {
            x.years(60, i);
        }
        due("behind the last year", x.governs(60), 0);
    }

    private static void rounds() {
        DarkestDay x = port(FOUR_DAYS);
        due("round(0)", x.round(0), 2);
        due("round(1)", x.round(1), 1);
        due("round(2)", x.round(2), NONE);
        due("round(-1)", x.round(-1), NONE);
        due("without a seaport", new DarkestDay().round(0), NONE);
        x = port("k;k;po9;ph1o9");
        due("as it is from the start", x.round(0), 1);
        due("at once", x.round(1), 1);
        // Year by year one voice more: 3, then 4, then 5 of the first kind; then as it stays.
        x = port("k;k;p;p;p;ph1o3;ph1o4");
        due("three year's ends until all is so", x.round(0), 3);
        due("and one more", x.round(1), 1);
    }

    private static void swinging() {
        DarkestDay x = port(FOUR_DAYS);
        due("it will be anyhow", x.swings(0), 0);
        due("one more", x.swings(1), 1);
        due("no such kind", x.swings(2), NONE);
        due("no such kind", x.swings(-1), NONE);
        due("without a seaport", new DarkestDay().swings(0), NONE);
        x.bed(0);
        due("one in bed is of no use", x.swings(1), 2);
        x.bed(0);
        x.eclipse();
        x.pass();
        due("by none: the ruler is over", x.swings(1), NONE);
        due("anyhow", x.swings(0), 0);
        x = port("k;k;k;ph2;ph1;ph1;ph1;ph1");
        due("of several the least", x.swings(0), 6);
        due("those who do it already need not", x.swings(2), 6);
        x = port("k;k;k;k;k;k;ph0;ph1;ph2");
        due("the lowest of all alike", x.swings(0), 0);
        due("others need one", x.swings(1), 1);
        due("two at the most", x.swings(5), 3);
        x = port("st0;k;k;p;p");
        due("coins do not matter", x.swings(1), 3);
    }

    private static void inBed() {
        DarkestDay x = port(FOUR_DAYS);
        due("anyhow", x.bedding(0), 0);
        due("both of the others", x.bedding(1), 3);
        due("no such kind", x.bedding(2), NONE);
        due("no such kind", x.bedding(-1), NONE);
        due("without a seaport", new DarkestDay().bedding(0), NONE);
        x.bed(0);
        due("one is in bed", x.bedding(1), 2);
        x.bed(2);
        due("nobody does it", x.bedding(1), NONE);
        x = port("k;k;p;p;p;ph1;ph1");
        due("of several the least", x.bedding(1), 3);
        // Only with all four up the day to come is darker than the one that is over, by its 4.
        x = port("sd2;k;k;ph1;ph1;p;p;ph1b1");
        tell(x, LAW, "y:i=0?4;y:13-u*3");
        x.law(0);
        x.bed(2);
        x.bed(4);
        x.pass();
        due("the second kind", x.did(0, 1), 19);
        x.bed(2);
        x.bed(4);
        due("the day to come rules", x.coming(0), 1);
        due("the first kind governs", x.bedding(0), 0);
        due("anyone in bed makes the other day rule", x.bedding(1), 1);
        x.fog(1);
        due("as it was", x.all(3), 15);
        // Two of them in bed would do, too, but one does; of the day that is over the second kind is ruler.
        x = port("sd2;k;k;k;k;ph2;ph3;ph1;ph1");
        tell(x, LAW, "y:i=0?4;y:u>2?u-1;y:9");
        x.law(0);
        x.pass();
        x.habit(2, 0);
        due("the fewest, not the least", x.bedding(1), 4);
        due("of the first", x.bedding(0), 0);
    }

    private static void coins() {
        DarkestDay x = port(FOUR_DAYS);
        int[] want = {20, 31, 42, 48, 59, 74};
        for (int i = 0; i < want.length; i++) {
            due("coins(" + i + ")", x.coins(i), want[i]);
        }
        due("coins(99)", x.coins(99), 999);
        due("coins(100)", x.coins(100), NONE);
        due("coins(-1)", x.coins(-1), NONE);
        due("without a seaport", new DarkestDay().coins(0), NONE);
        x.eclipse();
        due("in the dark", x.coins(1), 10);
        x.candles(9);
        x.undo();
        x.undo();
        x.fog(9);
        due("in the fog", x.coins(1), 20);
        due("as it is", x.count(8), 0);
    }

    // ---- promises 32 to 34: what was seen

    private static void seenPromises() {
        at = "promise 32";
        DarkestDay x = port(FOUR_DAYS);
        due("n 0", x.seen(0, 5, true), NONE);
        due("n 61", x.seen(61, 5, true), NONE);
        due("v -1", x.seen(1, -1, true), NONE);
        due("v 1000", x.seen(1, 1000, true), NONE);
        due("without a seaport", new DarkestDay().seen(1, 1, true), NONE);
        due("seen", x.seen(60, 999, false), 1);
        for (int i = 2; i <= 10; i++) {
            due("seen", x.seen(i == 2 ? 1 : i, 0, true), i);
        }
        due("an eleventh", x.seen(1, 1, true), NONE);
        due("SEEN", x.count(14), 10);
        due("no act", x.count(16), 0);

        at = "promise 33";
        x = port(FOUR_DAYS);
        due("all may be", x.habits(0, NONE), 2);
        due("the second", x.habits(0, 1), 1);
        due("habits(0, 2)", x.habits(0, 2), NONE);
        due("habits(0, -2)", x.habits(0, -2), NONE);
        due("habits(3, -1)", x.habits(3, NONE), NONE);
        due("habits(-1, -1)", x.habits(-1, NONE), NONE);
        due("without a seaport", new DarkestDay().habits(0, NONE), NONE);
        x.pass();
        x.fog(9);
        x.bed(0);
        x.habit(2, 0);
        // As told it was 31 behind one day; with another habit of the first person 33.
        x.seen(1, 31, true);
        due("31 or more", x.habits(0, NONE), 2);
        x.seen(1, 33, false);
        due("less than 33", x.habits(0, NONE), 1);
        due("less than 33", x.habits(0, 0), 0);
        due("of another", x.habits(2, NONE), 1);
        due("of another", x.habits(2, 0), 1);
        x.seen(1, 31, false);
        due("less than 31", x.habits(0, NONE), 0);
        due("of the third 29", x.habits(2, NONE), 0);
        x = port(FOUR_DAYS);
        tell(x, LAW, "y:5");
        x.law(0);
        // By the law that holds there is too little light for the second kind: 26 or 23.
        x.seen(1, 26, true);
        due("by the law", x.habits(0, 0), 0);
        due("by the law", x.habits(0, NONE), 1);
        x.seen(60, 999, false);
        due("behind 60 days", x.habits(0, NONE), x.coins(60) < 999 ? 1 : 0);

        at = "promise 34";
        x = port(FOUR_DAYS);
        due("ask(0)", x.ask(0), 1);
        due("ask(3)", x.ask(3), NONE);
        due("ask(-1)", x.ask(-1), NONE);
        due("without a seaport", new DarkestDay().ask(0), NONE);
        x.seen(1, 34, true);
        due("nothing fits", x.ask(0), NONE);
        // The first two kinds are alike but on the second day, and the third is unlike them on the first.
        x = port("sd3;kv2n2;kv2n5;kv9n0;po9;po9");
        tell(x, LAW, "y:i=1?3;y:9");
        x.law(0);
        due("behind two days", x.ask(0), 2);
        x.seen(1, 30, true);
        due("one alone", x.ask(0), 1);
        x = port("k;k;k;p;p");
        due("all alike for a year", x.ask(0) >= 1, true);
        x = port("sd30;k;k;pb1;p");
        due("never unlike", x.ask(0), 1);
        x = port("sd30t0;kv0n2;kv0n5;po9;pb1");
        tell(x, LAW, "y:y*30+i=59?3;y:9");
        x.law(0);
        due("unlike on the sixtieth day alone", x.ask(0), 60);
    }

    // ---- promises 35 to 37: games and odds

    private static void gamePromises() {
        at = "promise 35";
        DarkestDay x = port(FOUR_DAYS);
        due("the first", x.game(0, 2, 0, 1, 0), 12 + 5);
        due("the second", x.game(0, 2, 0, 1, 1), 15);
        due("both govern", x.game(0, 2, 0, 0, 0), 17);
        due("both govern", x.game(0, 2, 0, 0, 1), 17);
        due("the second kind governs", x.game(0, 2, 1, 1, 0), 20);
        due("the other way", x.game(2, 0, 1, 0, 0), 15);
        due("no such person", x.game(0, 3, 0, 0, 0), HIDDEN);
        due("no such person", x.game(-1, 1, 0, 0, 0), HIDDEN);
        due("alike", x.game(1, 1, 0, 0, 0), HIDDEN);
        due("no such kind", x.game(0, 1, 2, 0, 0), HIDDEN);
        due("no such kind", x.game(0, 1, 0, -1, 0), HIDDEN);
        due("no such what", x.game(0, 1, 0, 0, 2), HIDDEN);
        due("no such what", x.game(0, 1, 0, 0, -1), HIDDEN);
        due("without a seaport", new DarkestDay().game(0, 1, 0, 0, 0), HIDDEN);
        passes(x, 3);
        due("what is still to come", x.game(0, 2, 0, 1, 0), 3 + 5);
        due("the ruler is over", x.game(0, 2, 1, 1, 1), 5);
        x.pass();
        due("with voices", x.game(0, 2, 0, 1, 0), 4 * 5 + 5);
        x.bed(1);
        due("one in bed", x.game(0, 1, 0, 0, 0), HIDDEN);
        due("one in bed", x.game(1, 0, 0, 0, 0), HIDDEN);
        x = port("sd2;kv9n0;po9;po9");
        for (int i = 0; i < 17; i++) {
            x.years(60, 3);
        }
        due("a full purse", x.person(0, 3), 9999);
        due("takes no more", x.game(0, 1, 0, 0, 0), 5);
        due("takes no more", x.game(0, 1, 0, 0, 1), 5);

        at = "promise 36";
        x = port(FOUR_DAYS);
        due("rests", x.rests(0, 2, NONE), 2);
        due("the first", x.rests(0, 2, 0), 0);
        due("the second", x.rests(0, 2, 1), 11);
        due("rests(0, 2, 2)", x.rests(0, 2, 2), NONE);
        due("rests(0, 2, -2)", x.rests(0, 2, -2), NONE);
        due("alike", x.rests(0, 0, NONE), NONE);
        due("no such person", x.rests(0, 3, NONE), NONE);
        due("no such person", x.rests(-1, 0, NONE), NONE);
        due("without a seaport", new DarkestDay().rests(0, 1, NONE), NONE);
        x.bed(2);
        due("one in bed", x.rests(0, 2, NONE), NONE);
        // The first kind governs if both do it or each another; alone only the second kind brings much.
        x = port("sd2;kv0;kv9n0;p;p");
        due("both take what brings more", x.rests(0, 1, NONE), 1);
        due("both take what brings more", x.rests(0, 1, 0), 11);
        // The first has a full purse: it plays for the governor's prize alone, the second for coins.
        x = port("sd2;kv9n0;kv0;po9;po9b1");
        x.whim(0);
        for (int i = 0; i < 17; i++) {
            x.years(60, i);
        }
        x.bed(1);
        due("a full purse", x.person(0, 3) - x.person(1, 3), 9999);
        due("unlike two", x.rests(0, 1, NONE), 1);
        due("unlike two", x.rests(0, 1, 0), 0);
        due("unlike two, the other way", x.rests(1, 0, NONE), 1);

        at = "promise 37";
        odds();
    }

    private static void odds() {
        DarkestDay x = port(FOUR_DAYS);
        due("odds(2, 50)", x.odds(2, 50), 187500000);
        due("odds(0, 50)", x.odds(0, 50), 500000000);
        due("never fog", x.odds(2, 0), 1000000000);
        due("always fog", x.odds(0, 100), 1000000000);
        due("odds(4, 50)", x.odds(4, 50), NONE);
        due("odds(-1, 50)", x.odds(-1, 50), NONE);
        due("odds(0, 101)", x.odds(0, 101), NONE);
        due("odds(0, -1)", x.odds(0, -1), NONE);
        due("without a seaport", new DarkestDay().odds(0, 50), NONE);
        x.fog(9);
        x.pass();
        due("a day that is over", x.odds(0, 50), 1000000000);
        x.undo();
        x.undo();
        x.pass();
        x.pass();
        x.pass();
        due("two can be", x.odds(2, 30), 700000000);
        due("two can be", x.odds(3, 30), 300000000);
        x = port("sd3;k;p;p");
        due("the first day in fog", x.odds(0, 33), 330000000);
        due("the second in fog, or none of them", x.odds(1, 33), 670000000 / 100 * 33 + 448900000 / 100 * 67);
        due("the third alone in fog", x.odds(2, 33), 448900000 / 100 * 33);
        x = port("sd9;k;p;p");
        due("nine to come", x.odds(0, 50), NONE);
        x.pass();
        due("eight to come", x.odds(0, 0) + x.odds(4, 0), 1000000000);
        x = port("sd6;k;p;p");
        tell(x, LAW, "y:1+f");
        x.law(0);
        long part = 1000000000L;
        for (int i = 0; i < 5; i++) {
            part = part * 77 / 100;
        }
        due("each part is cut", x.odds(5, 77), part - part * 77 / 100);
        x.eclipse();
        due("an eclipse is dark by any fog", x.odds(0, 77), 1000000000);
    }

    // ---- promises 38 to 43

    private static void lastPromises() {
        at = "promise 38";
        DarkestDay x = port(FOUR_DAYS);
        due("no purses", x.shares(0, 100), 0);
        x.pass();
        due("5 of 11", x.shares(2, 110), 50);
        due("cut", x.shares(0, 10), 2);
        due("of nothing", x.shares(0, 0), 0);
        due("shares(2, 999)", x.shares(2, 999), 454);
        DarkestDay y = port("kv1;p;pb1");
        y.pass();
        due("of one coin", y.shares(0, 7) * 10 + y.shares(1, 7), 70);
        due("shares(0, 1000)", x.shares(0, 1000), NONE);
        due("shares(0, -1)", x.shares(0, -1), NONE);
        due("shares(3, 1)", x.shares(3, 1), NONE);
        due("shares(-1, 1)", x.shares(-1, 1), NONE);

        at = "promise 39";
        due("did(0, 0)", x.did(0, 0), 3);
        due("did(0, 1)", x.did(0, 1), 4);
        due("not over", x.did(1, 0), NONE);
        due("no such day", x.did(-1, 0), NONE);
        due("no such day", x.did(4, 0), NONE);
        due("no such kind", x.did(0, 2), NONE);
        due("no such kind", x.did(0, -1), NONE);
        x.bed(0);
        x.habit(1, 1);
        x.pass();
        due("in bed", x.did(1, 0), 0);
        due("the new habit", x.did(1, 1), 6);
        x.pass();
        due("though it is too dark", x.did(2, 1), 6);
        x.pass();
        due("another year", x.did(0, 0), NONE);
        due("without a seaport", new DarkestDay().did(0, 0), NONE);

        at = "promise 40";
        alls();
        at = "promise 41";
        images();
        at = "promise 43";
        due("count(17)", x.count(17), HIDDEN);
        due("count(-1)", x.count(-1), HIDDEN);
        x = port("sd5t33f2;k;k;kn0;p;p;p;p");
        tell(x, LAW, "y:i");
        tell(x, CALENDAR, "d");
        tell(x, CALENDAR, "d");
        fill(x, "abc");
        x.law(0);
        passes(x, 6);
        x.eclipse();
        x.candles(4);
        x.whim(5);
        x.seen(1, 1, true);
        x.seen(1, 1, true);
        x.seen(1, 1, true);
        int[] want = {4, 3, 5, 1, 2, 3, 0, 1, 1, x.count(9), 2, 1, 4, 5, 3, 1, 8};
        for (int i = 0; i < want.length; i++) {
            due("count(" + i + ")", x.count(i), want[i]);
        }
        due("treasury", x.count(9), 33 + 4 * 3 - 14);
    }

    private static void alls() {
        DarkestDay x = port("sd4t20;kv3n4;kv5n6;kv5;po1;po5;ph1o5;ph1o2b1");
        int[] fresh = {0, 1, 1, 7, 0, NONE, 4, 8, NONE};
        for (int i = 0; i < fresh.length; i++) {
            due("all(" + i + ")", x.all(i), fresh[i]);
        }
        due("all(9)", x.all(9), HIDDEN);
        due("all(-1)", x.all(-1), HIDDEN);
        due("without a seaport", new DarkestDay().all(6), HIDDEN);
        x.pass();
        due("richest", x.all(0), 2);
        due("dark", x.all(5), 0);
        due("left", x.all(6), 3);
        x.fog(1);
        due("idle: light 5", x.all(4), 4);
        x.eclipse();
        due("idle in the dark", x.all(4), 7);
        x.undo();
        x.candles(1);
        due("idle: light 7", x.all(4), 0);
        x.pass();
        due("dark", x.all(5), 1);
        x.pass();
        due("dark", x.all(5), 2);
        x.pass();
        due("a new year", x.all(5), NONE);
        due("governor", x.all(8), 0);
        due("swayed", x.person(3, 0), 0);
        due("swayed no more", x.all(7), 0);
        x.habit(0, 2);
        due("by the others' voices", x.all(7), 1);
        x = port("k;k;p;pb1");
        x.pass();
        x.bed(0);
        x.bed(1);
        x.pass();
        due("of several the lowest is richest", x.all(0), 0);
    }

    private static void images() {
        DarkestDay x = port(FOUR_DAYS);
        due("without a seaport", new DarkestDay().image(), NONE);
        at = "promise 42";
        due("no image", x.back(), NONE);
        at = "promise 41";
        passes(x, 6);
        x.fog(2);
        x.bed(1);
        x.habit(0, 1);
        x.eclipse();
        x.candles(3);
        due("image", x.image(), 2);
        int[] counts = new int[17];
        for (int i = 0; i < 17; i++) {
            counts[i] = x.count(i);
        }
        int[] marks = marks(x);
        x.undo();
        x.undo();
        x.undo();
        x.undo();
        x.undo();
        passes(x, 7);
        x.whim(4);
        at = "promise 42";
        due("back", x.back(), 2);
        counts[16] = 0;
        counts[13] = 4;
        for (int i = 0; i < 17; i++) {
            due("count(" + i + ")", x.count(i), counts[i]);
        }
        int[] again = marks(x);
        for (int i = 0; i < marks.length; i++) {
            due("mark " + i, again[i], marks[i]);
        }
        due("no act can be undone", x.undo(), NONE);
        x.pass();
        due("back again", x.back(), 2);
        x.pass();
        at = "promise 41";
        due("another image instead", x.image(), 3);
        x.pass();
        at = "promise 42";
        due("back to it", x.back(), 3);
        tell(x, SEAPORT, "k;p;p");
        due("of another seaport", x.back(), NONE);
    }

    private static int[] marks(DarkestDay x) {
        return new int[] {x.person(0, 0), x.person(1, 0), x.person(2, 0), x.person(0, 3), x.person(1, 3),
            x.person(2, 3), x.all(3), x.all(8), x.kind(0, 2), x.kind(1, 2), x.light(0), x.light(1), x.light(2),
            x.did(0, 0), x.did(1, 0), x.did(1, 1), x.log(0, 0), x.log(0, 1), x.log(0, 2), x.log(1, 0)};
    }
}
