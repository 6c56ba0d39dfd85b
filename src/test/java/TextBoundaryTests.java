/** The edges that the document names for the TAPE and its TEXTS, sentence by sentence. */
public final class TextBoundaryTests extends Checks {
    private static final String ALL_KINDS = "k;k;k;k;k;k";

    public static void main(String[] args) {
        tapes();
        ends();
        emptyTexts();
        longestSeaport();
        longestLaw();
        longestCalendar();
        clauses();
        items();
        habitsTold();
        blanks();
        otherBytes();
        lawNumbers();
        lawNesting();
        lawParts();
        steps();
        oneReadsMany();
        fourAtMost();
        anotherSeaport();
        finish("TextBoundaryTests");
    }

    // ---- the tape

    private static DarkestDay taped(int bytes) {
        DarkestDay x = new DarkestDay();
        fill(x, times(bytes, "p"));
        due("bytes", x.count(5), bytes);
        return x;
    }

    private static void tapes() {
        at = "twenty bytes more come to the TAPE; NONE: more than 240";
        due("the empty tape", new DarkestDay().feed(0, 0, 0, 0, 0), 0);
        due("the first byte", new DarkestDay().feed(0, 0, 0, 0, 'p'), 1);
        due("twenty", new DarkestDay().feed(-1, -1, -1, -1, -1), 20);
        due("220 and 20", taped(220).feed(-1, -1, -1, -1, -1), 240);
        DarkestDay x = taped(221);
        due("221 and 20", x.feed(-1, -1, -1, -1, -1), NONE);
        due("none of them came", x.count(5), 221);
        due("221 and 19", x.feed(-1, -1, -1, -1, 0x01010100), 240);
        x = taped(239);
        due("239 and 2", x.feed(0, 0, 0x01000001, 0, 0), NONE);
        due("none of them came", x.count(5), 239);
        due("239 and 1", x.feed(0, 0x00010000, 0, 0, 0), 240);
        due("240 and 1", x.feed(1, 0, 0, 0, 0), NONE);
        due("240 and nothing", x.feed(0, 0, 0, 0, 0), 240);
        due("the whole tape", x.count(5), MOST_BYTES);

        at = "of each number the highest first; bytes of 0 are left out";
        x = new DarkestDay();
        due("k;p;p", x.feed(0x006B003B, 0x70000000, 0x0000003B, 0, 0x00700000), 5);
        due("its fault", x.fault(SEAPORT), NONE);
        x = new DarkestDay();
        due("bytes from 128 on", x.feed(0x80FF7F01, Integer.MIN_VALUE, 0, 0, 0), 5);
        x = new DarkestDay();
        due("k;p; and 255", x.feed(0x6B3B703B, 0xFF000000, 0, 0, 0), 5);
        due("its fault", x.fault(SEAPORT), 4);
    }

    private static void ends() {
        at = "the TAPE has its first n bytes alone; False: n";
        DarkestDay x = new DarkestDay();
        due("end(0) of nothing", x.end(0), true);
        due("end(1) of nothing", x.end(1), false);
        fill(x, "k;p;pxyz");
        due("end(-1)", x.end(-1), false);
        due("end(9)", x.end(9), false);
        due("end(MIN)", x.end(Integer.MIN_VALUE), false);
        due("end(MAX)", x.end(Integer.MAX_VALUE), false);
        due("nothing is gone", x.count(5), 8);
        due("end(8)", x.end(8), true);
        due("nothing is gone", x.fault(SEAPORT), 5);
        due("end(5)", x.end(5), true);
        due("the first five", x.fault(SEAPORT), NONE);
        due("end(1)", x.end(1), true);
        due("feed behind them", x.feed(0x3B703B70, 0, 0, 0, 0), 5);
        due("k;p;p again", x.text(SEAPORT), 2);
        x = taped(240);
        due("end(241)", x.end(241), false);
        due("end(240)", x.end(240), true);
        due("end(239)", x.end(239), true);
        due("bytes", x.count(5), 239);
    }

    // ---- the empty text and the longest

    private static void emptyTexts() {
        at = "FAULT: the length, if it ends too early";
        for (int sort = SEAPORT; sort <= CALENDAR; sort++) {
            fault(sort, "", 0);
            fault(sort, " ", 1);
            fault(sort, times(240, " "), 240);
        }
    }

    /** The text with blanks ahead of all that is no digit, first to last, until it has so many bytes. */
    private static String stretched(String text, int bytes) {
        StringBuilder out = new StringBuilder(text);
        for (int place = 0; out.length() < bytes; place++) {
            if (place >= out.length()) {
                place = 0;
            }
            if (!Character.isDigit(out.charAt(place)) && out.charAt(place) != ' ') {
                out.insert(place, ' ');
                place++;
            }
        }
        return out.toString();
    }

    private static void longestSeaport() {
        at = "the longest SEAPORT";
        String all = "sd30t99f9;" + listOf(6, "kv9n30") + ";" + listOf(6, "ph5o9b1");
        String text = stretched(all, 240);
        due("its bytes", text.length(), 240);
        fault(SEAPORT, text, NONE);
        fault(SEAPORT, stretched(all, 239) + ";", 240);
        fault(SEAPORT, stretched(all, 239) + "x", 239);
        fault(SEAPORT, stretched(all, 239) + "1", 239);
        DarkestDay x = port(text);
        due("counts", new int[] {x.count(0), x.count(1), x.count(2), x.count(9), x.count(10)}, 6, 6, 30, 99, 9);
        for (int i = 0; i < 6; i++) {
            due("a kind", new int[] {x.kind(i, 0), x.kind(i, 1), x.kind(i, 3)}, 9, 30, i == 5 ? 63 : 0);
            due("a person", new int[] {x.person(i, 0), x.person(i, 1), x.person(i, 2)}, 5, 9, 1);
        }
    }

    private static void longestLaw() {
        at = "the longest LAW";
        String sum = "y:" + times(118, "0+") + "42";
        due("its bytes", sum.length(), 240);
        fault(LAW, sum, NONE);
        due("its worth", worth(sum), 42);
        fault(LAW, sum.substring(0, 239) + "+", 240);
        fault(LAW, sum.substring(0, 239) + "x", 239);
        String clauses = times(29, "y:i>9?1;") + "y:i=4?77";
        due("its bytes", clauses.length(), 240);
        fault(LAW, clauses, NONE);
        due("thirty clauses", worth(clauses), 77);
        fault(LAW, times(30, "y:i>9?1;"), 240);
        String atoms = "y:" + times(119, "i-").substring(0, 237) + " ";
        due("its bytes", atoms.length(), 240);
        due("a letter and 118 less", worth(atoms), 0);
        waitingLaws();
    }

    /** Laws in which as much as can be waits for what is deepest within. */
    private static void waitingLaws() {
        String sums = "1+1*[1+1*[1+1*[1+1*[1+1*[1+1*[1+1*1]]]]]]";
        due("sums within sums", worth("y:" + sums), 8);
        due("sums of both sides", worth("y:" + sums + "=" + sums + "?5"), 5);
        String truths = "1=2|1=1&(1=2|1=1&(1=2|1=1&(1=2|1=1&(1=2|1=1&(1=2|1=1&(1=2|1=1&2>1))))))";
        due("truths within truths", worth("y:" + truths + "?6;y:7"), 6);
        String units = "1=2|1=1&!(1=2|1=1&!(1=2|1=1&!(1=2|1=1&1=1+1*0)))";
        due("units within units", worth("y:" + units + "?6;y:7"), 7);
    }

    private static void longestCalendar() {
        at = "the longest CALENDAR";
        String text = stretched(listOf(20, "h01"), 240);
        due("its bytes", text.length(), 240);
        fault(CALENDAR, text, NONE);
        fault(CALENDAR, stretched(listOf(20, "h01"), 239) + ";", 239);
        fault(CALENDAR, stretched(listOf(19, "h01"), 239) + ";", 240);
        DarkestDay x = new DarkestDay();
        due("the text", tell(x, CALENDAR, text), 0);
        for (int i = 0; i < 20; i++) {
            due("a step", new int[] {x.step(0, i, 0), x.step(0, i, 1), x.step(0, i, 2)}, 1, 0, 1);
        }
        due("a 21st", x.step(0, 20, 0), HIDDEN);
    }

    // ---- seaports

    private static void clauses() {
        at = "k (a KIND of doing; 1 .. 6)";
        fault(SEAPORT, "p;p", 3);
        fault(SEAPORT, "s;p;p", 5);
        fault(SEAPORT, "k;p;p", NONE);
        fault(SEAPORT, ALL_KINDS + ";p;p", NONE);
        fault(SEAPORT, "p;p;" + ALL_KINDS + ";k", 16);
        fault(SEAPORT, ALL_KINDS + "; kv9", 13);
        due("kinds", port(ALL_KINDS + ";p;p").count(1), 6);

        at = "p (a PERSON; 2 .. 6)";
        fault(SEAPORT, "k", 1);
        fault(SEAPORT, "k;s;p", 5);
        fault(SEAPORT, "k;p;p;p;p;p;p", NONE);
        fault(SEAPORT, "k;p;p;p;p;p;p;p", 14);
        fault(SEAPORT, "p;p;p;p;p;p;ph0;k", 12);
        due("persons", port("k;p;p;p;p;p;p").count(0), 6);

        at = "s (its RULES; one at most)";
        fault(SEAPORT, "p;k;p;s", NONE);
        fault(SEAPORT, "s;p;k;p;s", 8);
        fault(SEAPORT, "s;s;p;k;p", 2);
        at = "a second s, a seventh k or p itself, behind all of the others, too";
        String full = "s;" + ALL_KINDS + ";p;p;p;p;p;p";
        fault(SEAPORT, full, NONE);
        fault(SEAPORT, full + ";s", 26);
        fault(SEAPORT, full + ";k", 26);
        fault(SEAPORT, full + ";p", 26);

        at = "CLAUSES with ; between";
        fault(SEAPORT, ";k;p;p", 0);
        fault(SEAPORT, "k;p;p;", 6);
        fault(SEAPORT, "k;;p;p", 2);
        fault(SEAPORT, "k p;p", 2);
    }

    /** An item: the clauses ahead of it and its own, its letter, its bounds, what it is untold. */
    private static void items() {
        item("k;p;p;s", 'd', 2, 30, 8);
        item("k;p;p;s", 't', 0, 99, 20);
        item("k;p;p;s", 'f', 0, 9, 0);
        item("p;p;k", 'v', 0, 9, 3);
        item("p;p;k", 'n', 0, 30, 4);
        item(ALL_KINDS + ";p;p", 'h', 0, 5, 0);
        item("k;p;p", 'o', 0, 9, 2);
        item("k;p;p", 'b', 0, 1, 0);
        at = "ITEMS, none or more: a letter, each once at most";
        fault(SEAPORT, "k;p;psd2", 5);
        fault(SEAPORT, "k;p;p;st1d2f3", NONE);
        fault(SEAPORT, "k;p;p;st1d2f3t1", 13);
        fault(SEAPORT, "sv1", 1);
        fault(SEAPORT, "kd1", 1);
        fault(SEAPORT, "pn1", 1);
        fault(SEAPORT, "k1", 1);
    }

    private static int told(String text, char letter) {
        DarkestDay x = port(text);
        switch (letter) {
            case 'd': return x.count(2);
            case 't': return x.count(9);
            case 'f': return x.count(10);
            case 'v': return x.kind(0, 0);
            case 'n': return x.kind(0, 1);
            case 'h': return x.person(1, 0);
            case 'o': return x.person(1, 1);
            default: return x.person(1, 2);
        }
    }

    private static void item(String ahead, char letter, int least, int most, int usual) {
        at = "the item " + letter + ", " + least + " .. " + most + "; " + usual + " without";
        String start = ahead + letter;
        int length = start.length();
        due("without", told(ahead, letter), usual);
        for (int value = 0; value <= 99; value++) {
            boolean fine = value >= least && value <= most;
            String two = value < 10 ? "0" + value : "" + value;
            fault(SEAPORT, start + two, fine ? NONE : length + 1);
            fault(SEAPORT, start + two + " ;", fine ? length + 4 : length + 1);
            fault(SEAPORT, start + two + "0", length + 2);
            fault(SEAPORT, start + two + " 0", fine ? length + 3 : length + 1);
            if (value < 10) {
                fault(SEAPORT, start + value, fine ? NONE : length);
            }
        }
        due("the least", told(start + least, letter), least);
        due("the most", told(start + most, letter), most);
        fault(SEAPORT, start, length);
        fault(SEAPORT, start + " ", length + 1);
        fault(SEAPORT, start + ";", length);
        fault(SEAPORT, start + "-1", length);
        fault(SEAPORT, start + most + letter + most, (start + most).length());
    }

    private static void habitsTold() {
        at = "with a HABIT that is not told";
        for (int kinds = 1; kinds <= 6; kinds++) {
            String text = listOf(kinds, "k") + ";p;ph";
            fault(SEAPORT, text + (kinds - 1), NONE);
            fault(SEAPORT, text + kinds, kinds == 6 ? text.length() : text.length() + 1);
        }
        fault(SEAPORT, "ph1;p;k ", 8);
        fault(SEAPORT, "ph1;p;k;k", NONE);
        fault(SEAPORT, "k;p;p;p;p;p;ph1", 15);
    }

    private static void blanks() {
        at = "blanks may stand between all signs of these";
        fault(SEAPORT, "  s  d  2  t  0  f  0  ;  k  v  1  n  2  ;  p  h  0  ;  p  b  1  ", NONE);
        fault(LAW, "  y  :  !  (  i  =  1  &  d  <  2  |  f  >  3  )  ?  [  u  +  1  ]  *  2  ;  y  :  0  ", NONE);
        fault(CALENDAR, "  d  ;  h  0  1  ;  b  2  ;  f  3  ;  e  ;  c  4  ", NONE);
        at = "not within numbers (between digits of a STEP they may)";
        fault(SEAPORT, "k;p;p;sd1 2", 8);
        fault(SEAPORT, "k;p;p;sd2 2", 10);
        fault(LAW, "y:1 2", 4);
        fault(LAW, "y:999 9", 6);
        fault(CALENDAR, "h 0 1", NONE);
        at = "FAULT behind blanks: the byte that is wrong";
        fault(SEAPORT, "k;p;  x", 6);
        fault(SEAPORT, "k;p  ", 5);
        fault(LAW, "y:1  x", 5);
        fault(LAW, "y:1+  ", 6);
        fault(CALENDAR, "b  x", 3);
    }

    private static void otherBytes() {
        at = "FAULT: a byte that stands nowhere in such a TEXT";
        for (char sign : new char[] {1, 9, 10, 31, 33, 'K', 'z', 127, 128, 160, 254, 255}) {
            fault(SEAPORT, sign + "k;p;p", 0);
            fault(SEAPORT, "k;p;p" + sign, 5);
            fault(SEAPORT, "k;p;po" + sign, 6);
            fault(LAW, sign + "y:1", 0);
            fault(LAW, "y:1" + sign, 3);
            fault(CALENDAR, sign + "d", 0);
            fault(CALENDAR, "b" + sign, 1);
            fault(CALENDAR, "d" + sign, 1);
        }
        due("fault(3)", new DarkestDay().fault(3), -2);
        due("fault(-1)", new DarkestDay().fault(-1), -2);
        due("fault(MIN)", new DarkestDay().fault(Integer.MIN_VALUE), -2);
        due("fault(MAX)", new DarkestDay().fault(Integer.MAX_VALUE), -2);
    }

    // ---- laws

    private static void lawNumbers() {
        at = "a number (1 to 4 digits); a fifth one in a LAW itself";
        fault(LAW, "y:0", NONE);
        fault(LAW, "y:0000", NONE);
        fault(LAW, "y:9999", NONE);
        fault(LAW, "y:00000", 6);
        fault(LAW, "y:99999", 6);
        fault(LAW, "y:123456", 6);
        fault(LAW, "y:1=12345?1", 8);
        fault(LAW, "y:-1", 2);
        due("four digits", worth("y:9999-9901"), 98);
        due("digits of 0 ahead", worth("y:0042"), 42);
    }

    private static void lawNesting() {
        at = "at most six of ( [ ! within one another; a seventh at it";
        for (int i = 0; i <= 6; i++) {
            String close = times(i, "]");
            fault(LAW, "y:" + times(i, "[") + "1" + close, NONE);
            String six = times(i, "(") + times(6 - i, "!");
            fault(LAW, "y:" + six + "i=1" + times(i, ")") + "?1", NONE);
            fault(LAW, "y:" + six + "!i=1" + times(i, ")") + "?1", 8);
            fault(LAW, "y:" + six + "(i=1)" + times(i, ")") + "?1", 8);
            fault(LAW, "y:" + six + "[i]=1" + times(i, ")") + "?1", 8);
            fault(LAW, "y:" + six + "i=[1]" + times(i, ")") + "?1", 10);
        }
        fault(LAW, "y:[[[[[[[1]]]]]]]", 8);
        fault(LAW, "y:[[[ [[[ [1]]]]]]]", 10);
        fault(LAW, "y:1=1?[[[[[[[1]]]]]]]", 12);
        fault(LAW, "y:!(!([[1]]=1))?1", NONE);
        fault(LAW, "y:!(!([[[1]]]=1))?1", 8);
        at = "within one another: beside one another they are not";
        fault(LAW, "y:" + listOf(8, "[1]").replace(';', '+'), NONE);
        fault(LAW, "y:" + listOf(8, "(1=1)").replace(';', '&') + "?1", NONE);
        fault(LAW, "y:" + listOf(8, "!1=1").replace(';', '|') + "?1", NONE);
        String deep = "!!!!!!1=1";
        fault(LAW, "y:" + deep + "&" + deep + "?[[[[[[1]]]]]]", NONE);
        fault(LAW, "y:" + deep + "&!!" + deep + "?1", 18);
        fault(LAW, "y:!(!(1=1)&!!!!1=1)?1", NONE);
        fault(LAW, "y:!(!(1=1)&!!!!!1=1)?1", 15);
        fault(LAW, "y:(!!!!!1=1&!!!!!1=1)&!!!!!!1=1?1", NONE);
        fault(LAW, "y:!!!!!1=[1]+[2]?1", NONE);
        fault(LAW, "y:!!!!!1=1|[[[[[[1]]]]]]=1?1", NONE);
        fault(LAW, "y:1;y:[[[[[[1]]]]]];y:[[[[[[[1]]]]]]]", 28);
    }

    private static void lawParts() {
        at = "LAWS: CLAUSES with ; between, one at least";
        fault(LAW, ";", 0);
        fault(LAW, "y:1", NONE);
        fault(LAW, "y:1;", 4);
        fault(LAW, "y:1;;", 4);
        fault(LAW, "y", 1);
        fault(LAW, "y:", 2);
        fault(LAW, "y?", 1);
        at = "y, : , perhaps CONDITION ?, then SUM";
        fault(LAW, "y:?1", 2);
        fault(LAW, "y:1=1?", 6);
        fault(LAW, "y:1=1?;", 6);
        fault(LAW, "y:1=1?2=2", 7);
        fault(LAW, "y:1=1?2?3", 7);
        fault(LAW, "y:1=1?(2)", 6);
        at = "a CLAUSE that goes on with ! or ( behind its : has a CONDITION";
        fault(LAW, "y:(1)", 4);
        fault(LAW, "y:(1+1)*2", 6);
        fault(LAW, "y:!1", 4);
        fault(LAW, "y:!1=1", 6);
        fault(LAW, "y:(1=1);y:1", 7);
        fault(LAW, "y:!1=1;y:1", 6);
        fault(LAW, "y:[1]", NONE);
        fault(LAW, "y:[1]=1?1", NONE);
        fault(LAW, "y:[(1=1)]", 3);
        fault(LAW, "y:[!1=1]", 3);
        at = "an ATOM: a letter (i d f u y r)";
        for (char c = 'a'; c <= 'z'; c++) {
            fault(LAW, "y:" + c, "idfuyr".indexOf(c) >= 0 ? NONE : 2);
            fault(LAW, "y:1=1?" + c, "idfuyr".indexOf(c) >= 0 ? NONE : 6);
        }
        fault(LAW, "y:ii", 3);
        fault(LAW, "y:1i", 3);
        fault(LAW, "y:i1", 3);
        at = "the WORTH: 0 without a CLAUSE whose CONDITION holds";
        due("none", worth("y:i=0?5;y:i=1?6"), 0);
        due("the last", worth("y:i=0?5;y:i=1?6;y:i=4?7"), 7);
        due("the first of several", worth("y:i=4?5;y:i=4?6;y:7"), 5);
        due("one of 0", worth("y:i=4?0;y:7"), 0);
    }

    // ---- calendars

    private static void steps() {
        at = "CALENDARS: STEPS with ; between, 1 to 20; the ; ahead of a 21st STEP";
        fault(CALENDAR, "d", NONE);
        fault(CALENDAR, listOf(20, "d"), NONE);
        fault(CALENDAR, listOf(20, "d") + " ", NONE);
        fault(CALENDAR, listOf(20, "d") + ";", 39);
        fault(CALENDAR, listOf(21, "d"), 39);
        fault(CALENDAR, listOf(20, "d") + " ; x", 40);
        fault(CALENDAR, listOf(20, "h01") + ";", 79);
        fault(CALENDAR, listOf(19, "d") + ";", 38);
        fault(CALENDAR, ";", 0);
        at = "h and two digits, b, f and c and a digit, d and e alone";
        for (char digit = '0'; digit <= '9'; digit++) {
            fault(CALENDAR, "h" + digit + "9", NONE);
            fault(CALENDAR, "h9" + digit, NONE);
            for (String step : new String[] {"b", "f", "c"}) {
                fault(CALENDAR, step + digit, NONE);
                fault(CALENDAR, step + digit + digit, 2);
            }
            fault(CALENDAR, "d" + digit, 1);
            fault(CALENDAR, "e" + digit, 1);
        }
        fault(CALENDAR, "h", 1);
        fault(CALENDAR, "h0", 2);
        fault(CALENDAR, "h000", 3);
        fault(CALENDAR, "h0;", 2);
        fault(CALENDAR, "f;", 1);
        for (char c = 'a'; c <= 'z'; c++) {
            fault(CALENDAR, "" + c, "de".indexOf(c) >= 0 ? NONE : "hbfc".indexOf(c) >= 0 ? 1 : 0);
        }
    }

    // ---- texts one behind the other

    /** Texts of the three sorts, good ones and such with a fault; the faults as told by an object of their own. */
    private static void oneReadsMany() {
        at = "a TEXT is read as if it were the first";
        String[] texts = {"y:!(1=[2+", "y:[[[[[[1", "y:!!!!!!1=1&((((((", "y:1=2?3;y:4=5", "y:(1=1|", "y:[1]", "y:1=1?2",
            "k;k;ph1;p", "kv1;k;ph1", "sd2t3f4", "ph0;ph0;k", "sd3;k;p;p", "d;h01;b2", listOf(20, "d") + ";", "c1;h0", "e"};
        DarkestDay x = new DarkestDay();
        for (int round = 0; round < 3; round++) {
            for (int i = 0; i < texts.length; i++) {
                String text = texts[round == 1 ? texts.length - 1 - i : i];
                DarkestDay own = new DarkestDay();
                fill(own, text);
                fill(x, text);
                for (int sort = SEAPORT; sort <= CALENDAR; sort++) {
                    due("fault " + sort + " of " + text, x.fault(sort), own.fault(sort));
                }
            }
        }
        fill(x, "y:9;y:!(i=[2+");
        due("a law with a fault", x.text(LAW), NONE);
        due("a law", tell(x, LAW, "y:i=1?7;y:[i+3]"), 0);
        fill(x, "h45;h56;c");
        due("a calendar with a fault", x.text(CALENDAR), NONE);
        due("a calendar", tell(x, CALENDAR, "b1;d"), 0);
        fill(x, "sd30t99f9;kv9n0;kv9;ph1o9b1;ph1b1;p;ph2");
        due("a seaport with a fault", x.text(SEAPORT), NONE);
        due("a seaport", tell(x, SEAPORT, "k;p;p"), 2);
        x.law(0);
        due("its law", x.light(1) * 10 + x.light(2), 75);
        due("its calendar", new int[] {x.step(0, 0, 0), x.step(0, 0, 1), x.step(0, 0, 2), x.step(0, 1, 1), x.step(0, 2, 0)},
                2, 1, NONE, NONE, HIDDEN);
        due("its counts", new int[] {x.count(0), x.count(1), x.count(2), x.count(9), x.count(10)}, 2, 1, 8, 20, 0);
        due("its person", new int[] {x.person(0, 0), x.person(0, 1), x.person(0, 2)}, 0, 2, 0);
        due("its kind", new int[] {x.kind(0, 0), x.kind(0, 1)}, 3, 4);
    }

    // ---- how many texts there are

    private static void fourAtMost() {
        at = "LAWS, CALENDARS (4 at most); NONE: there are four";
        DarkestDay x = new DarkestDay();
        for (int i = 0; i < 4; i++) {
            due("a law", tell(x, LAW, "y:" + (i + 1)), i);
            due("laws", x.count(3), i + 1);
            due("the tape", x.count(5), 0);
            due("law(" + i + ")", x.law(i), true);
            due("law(" + (i + 1) + ")", x.law(i + 1), false);
            due("a calendar", tell(x, CALENDAR, "f" + i), i);
            due("calendars", x.count(4), i + 1);
            due("step", x.step(i, 0, 1), i);
            due("the next", x.step(i + 1, 0, 1), HIDDEN);
        }
        fill(x, "y:77");
        due("no fault", x.fault(LAW), NONE);
        due("a fifth law", x.text(LAW), NONE);
        due("the tape stays", x.count(5), 4);
        due("laws", x.count(3), 4);
        fill(x, "f9");
        due("no fault", x.fault(CALENDAR), NONE);
        due("a fifth calendar", x.text(CALENDAR), NONE);
        due("the tape stays", x.count(5), 2);
        due("calendars", x.count(4), 4);
        due("a seaport", tell(x, SEAPORT, "k;p;p"), 2);
        for (int i = 0; i < 4; i++) {
            due("the law", x.law(i), true);
            due("its light", x.light(0), i + 1);
            due("the calendar", x.step(i, 0, 1), i);
        }
        due("still four", new int[] {tell(x, LAW, "y:1"), tell(x, CALENDAR, "d")}, NONE, NONE);
        at = "text: no such sort";
        for (int sort : new int[] {3, -1, Integer.MIN_VALUE, Integer.MAX_VALUE}) {
            due("text(" + sort + ")", x.text(sort), NONE);
        }
        due("the tape stays", x.count(5), 1);
    }

    private static void anotherSeaport() {
        at = "all that was of another one, SEEN, too, is gone but LAWS, which holds, CALENDARS, WHIM, STATUS";
        DarkestDay x = port("sd2t50f9;k;k;k;k;k;kv9n0;ph5;ph5;ph5;ph5;ph5;ph5b1", "y:y+r*10+f");
        tell(x, CALENDAR, "e;d");
        x.whim(9);
        for (int i = 0; i < 10; i++) {
            x.seen(1, 0, true);
        }
        passes(x, 125);
        x.eclipse();
        x.candles(9);
        x.fog(3);
        x.fog(3);
        x.image();
        due("ahead", new int[] {x.count(7), x.count(8), x.count(15), x.count(16), x.all(8)}, 62, 1, 60, 40, 5);
        due("no seaport", tell(x, SEAPORT, "k;p"), NONE);
        due("as ahead", new int[] {x.count(7), x.count(8), x.count(15), x.count(16), x.all(8)}, 62, 1, 60, 40, 5);
        due("another", tell(x, SEAPORT, "k;p;p"), 2);
        int[] want = {2, 1, 8, 1, 1, 0, 0, 0, 0, 20, 0, 0, 0, 9, 0, 0, 0};
        for (int i = 0; i < want.length; i++) {
            due("count(" + i + ")", x.count(i), want[i]);
        }
        due("the governor", x.all(8), NONE);
        due("the day that was over", x.did(0, 0), NONE);
        due("light by the law", x.light(0), 0);
        due("log", x.log(0, 0), HIDDEN);
        due("back", x.back(), NONE);
        due("undo", x.undo(), NONE);
        due("a kind that was", x.kind(5, 0), HIDDEN);
        throwsIt(x, 2, 0);
        due("persons", new int[] {x.person(1, 0), x.person(1, 3), x.all(3), x.all(7)}, 0, 0, 3, 0);
        due("voices", x.kind(0, 2), 0);
        statuses(x, 0, 0, 1, 0, 0);
    }
}
