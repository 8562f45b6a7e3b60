/** Promises 1 to 7: a new object, write, erase, fault, hall, monk, as. */
public final class ToldTest {
    private static final int NONE = -1, UNKNOWN = -2, OUTSIDE = -3, NOT = -4, FULL = -5;
    private static final Check CHECK = new Check();

    public static void main(String[] args) {
        newObject();
        write();
        erase();
        erasedBytesAreGone();
        soundTexts();
        faultyTexts();
        faultAtTheEnd();
        linesAndBounds();
        hallRefused();
        hallDoesLinesInOrder();
        hallBeginsAnew();
        hallKeepsWhatWasTold();
        yesterdayAsTold();
        monk();
        mayByYesterday();
        as();
        CHECK.end();
    }

    private static void due(String call, long got, long want) {
        CHECK.due(call, got, want);
    }

    private static void newObject() {
        DutiesHat x = new DutiesHat();
        int[] counts = {4, 3, 0, 0, 0};
        for (int what = 0; what < 5; what++) {
            due("new: count(" + what + ")", x.count(what), counts[what]);
        }
        for (int m = 0; m < 4; m++) {
            due("new: has(" + m + ", 0)", x.has(m, 0), NONE);
            due("new: has(" + m + ", 1)", x.has(m, 1), NONE);
            due("new: as(" + m + ", 1)", x.as(m, 1), 4);
            due("new: as(" + m + ", 2)", x.as(m, 2), NOT);
            for (int d = 0; d < 4; d++) {
                due("new: monk(" + m + ", " + d + ", 0)", x.monk(m, d, 0), 5);
                due("new: monk(" + m + ", " + d + ", 1)", x.monk(m, d, 1), 5);
                due("new: monk(" + m + ", " + d + ", 2)", x.monk(m, d, 2), 1);
            }
        }
        due("new: back(0)", x.back(0), NOT);
        due("new: fault()", x.fault(), 0);
    }

    private static void write() {
        DutiesHat x = new DutiesHat();
        for (int n : new int[] {0, -1, 9, Integer.MIN_VALUE, Integer.MAX_VALUE}) {
            due("write(0, " + n + ")", x.write(0, n), OUTSIDE);
        }
        due("nothing was written", x.count(3), 0);
        for (int i = 1; i <= 24; i++) {
            due("write of 8, the " + i + "th", x.write(0, 8), 8 * i);
        }
        due("write of 5", x.write(0, 5), 197);
        due("write of 4 beyond 200", x.write(0, 4), FULL);
        due("it is as it was", x.count(3), 197);
        due("write of 3 up to 200", x.write(0, 3), 200);
        due("write of 1 beyond 200", x.write(0, 1), FULL);
        due("write of 0 when full", x.write(0, 0), OUTSIDE);
        due("write of 9 when full", x.write(0, 9), OUTSIDE);
        due("erase() of 200", x.erase(), 200);
        // The bytes beyond n are not taken, and the highest byte has no sign.
        due("write of 6 of 8", x.write(Check.pack("ring 0xx", 0), 6), 6);
        due("fault() of 'ring 0'", x.fault(), NONE);
        x.erase();
        x.write(Check.pack("ring 0 \u00ff", 0), 8);
        due("fault() at byte 255", x.fault(), 7);
    }

    private static void erase() {
        DutiesHat x = new DutiesHat();
        due("erase() of nothing", x.erase(), 0);
        Check.write(x, "ring 0");
        due("erase() of 6", x.erase(), 6);
        due("erase() again", x.erase(), 0);
        due("hall() behind erase()", x.hall(), NOT);
        due("count(1)", x.count(1), 3);
    }

    private static void erasedBytesAreGone() {
        String[][] texts = {{"hallo 4", "hall", "4"}, {"ring 2", "ring ", "5"}, {"ring 22", "ring 2", "-1"},
            {"ring 2;x", "ring 2", "-1"}, {"skill 0 0 3", "skill 0 0 ", "10"}};
        for (String[] row : texts) {
            DutiesHat x = new DutiesHat();
            Check.write(x, row[0]);
            x.erase();
            Check.write(x, row[1]);
            due("fault of '" + row[1] + "' behind '" + row[0] + "'", x.fault(), Integer.parseInt(row[2]));
        }
        String letters = "x".repeat(200);
        due("fault of 200 letters", Check.faultOf(letters), 0);
        due("fault of 200 digits", Check.faultOf("ring " + "0".repeat(195)), 5);
        due("fault of 200 bytes with ; at the end", Check.faultOf("ring 2" + " ".repeat(193) + ";"), 200);
    }

    private static void soundTexts() {
        String[] sound = {"hall 2", "hall 7", "hall 07", "skill 3 3 9", "skill 0 0 0", "like 3 3 9", "like 00 00 00",
                "plain 3", "tiring 0", "holy 3", "sweet 3", "ring 0", "ring 2", "ring 3", "ring 03", "did 3 3",
                "  ring   2  ;  plain  0  ", "ring2;hall7;did6 6", "hall 7;skill 6 6 9;like 6 6 0;sweet 6",
                "did 0 0;did 1 0;did 0 1"};
        for (String text : sound) {
            due("fault of '" + text + "'", Check.faultOf(text), NONE);
        }
    }

    private static void faultyTexts() {
        Object[][] faulty = {
            {"hall 1", 5}, {"hall 8", 5}, {"hall 0", 5}, {"hall 00", 5}, {"hall 10", 5}, {"hall 004", 5},
            {"hall 99", 5}, {"hall x", 5}, {"hall -2", 5}, {"hall ;", 5}, {"hall hall", 5},
            {"skill 4 0 0", 6}, {"skill 0 4 0", 8}, {"skill 0 0 10", 10}, {"skill 0 0 000", 10},
            {"like 4 0 0", 5}, {"like 0 4 0", 7}, {"like 0 0 10", 9}, {"like 0 0 0 0", 11},
            {"plain 4", 6}, {"tiring 4", 7}, {"holy 4", 5}, {"sweet 4", 6}, {"sweet 0 0", 8},
            {"ring 1", 5}, {"ring 4", 5}, {"ring 01", 5}, {"ring 12", 5}, {"ring 000", 5},
            {"did 4 0", 4}, {"did 0 4", 6}, {"did 0 0 0", 8}, {"did 0 99", 6},
            {"halls 4", 0}, {"halla 4", 0}, {"hallz 4", 0}, {"xall 4", 0}, {"hall`4", 4}, {"hall{4", 4}, {"hall 4/", 6},
            {"hall 4:", 6}, {"hall /", 5}, {"hall :", 5}, {"hal 4", 0}, {"Hall 4", 0}, {"hALL 4", 0}, {"4", 0}, {";", 0}, {"\t", 0}, {"\0", 0},
            {"  hal 4", 2}, {"hall 4 ring", 7}, {"hall 4x", 6}, {"hall 4,", 6}, {"hall 4;;", 7}, {"hall 4;4", 7},
            {"hall 4 ; x", 9}, {"hall\t4", 4}, {"ringring 2", 0}, {"ring 2 2", 7}, {"ring 2:ring 2", 6},
            {"hall 2;did 2 0", 11}, {"hall 2;did 0 2", 13}, {"hall 2;hall 7;did 6 7", 20}, {"did 3 3;hall 3;did 3 3", 19},
            {"hall 3;holy 3", 12}, {"kind 0", 0}, {"duty 0", 0}, {"hall 8;x", 5}};
        for (Object[] row : faulty) {
            due("fault of '" + row[0] + "'", Check.faultOf((String) row[0]), (Integer) row[1]);
        }
    }

    private static void faultAtTheEnd() {
        String[] short_ = {"", " ", "   ", "hall", "hall ", "skill", "skill 0", "skill 0 0", "skill 0 0  ", "like 0 0",
                "plain", "tiring", "holy", "sweet", "ring", "did", "did 0", "hall 4;", "hall 4 ; ", "ring 0;ring 0;"};
        for (String text : short_) {
            due("fault of '" + text + "'", Check.faultOf(text), text.length());
        }
    }

    private static void linesAndBounds() {
        String fourteen = "ring 0" + ";ring 0".repeat(13);
        due("fault of 14 lines", Check.faultOf(fourteen), NONE);
        due("fault of 14 lines and blanks", Check.faultOf(fourteen + "  "), NONE);
        due("fault of 15 lines", Check.faultOf(fourteen + ";ring 0"), fourteen.length());
        due("fault of 14 lines and ;", Check.faultOf(fourteen + " ;"), fourteen.length() + 1);
        due("fault of 15 lines, an earlier one", Check.faultOf("ring 1;" + fourteen), 5);
        String whole = "ring 2" + " ".repeat(194);
        due("fault of 200 bytes", Check.faultOf(whole), NONE);
        DutiesHat x = new DutiesHat();
        Check.write(x, fourteen);
        due("hall() of 14 lines", x.hall(), 14);
        Check.write(x, whole);
        due("hall() of 200 bytes", x.hall(), 1);
        due("count(1)", x.count(1), 2);
        // The bounds of a text are those of the hall that stands, not of a new one.
        Check.tell(x, "hall 7");
        Check.write(x, "did 6 6");
        due("fault() with seven monks", x.fault(), NONE);
        x.erase();
        Check.tell(x, "hall 2");
        Check.write(x, "did 1 2");
        due("fault() with two monks", x.fault(), 6);
    }

    private static void hallRefused() {
        DutiesHat x = Check.told("hall 3;ring 2;did 0 1");
        x.lay(0);
        x.keep(0);
        Check.write(x, "hall 5;ring 0;skill 0 0 1;ring 1");
        due("hall() with a fault", x.hall(), NOT);
        due("count(0)", x.count(0), 3);
        due("count(1)", x.count(1), 2);
        due("count(3)", x.count(3), 32);
        due("count(4)", x.count(4), 1);
        due("monk(0, 0, 0)", x.monk(0, 0, 0), 5);
        due("has(0, 1)", x.has(0, 1), 1);
        due("back(0)", x.back(0), 0);
        due("fault() is still there", x.fault(), 31);
    }

    private static void hallDoesLinesInOrder() {
        DutiesHat x = new DutiesHat();
        Check.write(x, "skill 0 0 1;skill 0 0 2;like 1 2 7;ring 2;ring 0;holy 1;sweet 1;did 2 0;did 2 3");
        due("fault() changes nothing", x.fault(), NONE);
        due("monk(0, 0, 0) ahead", x.monk(0, 0, 0), 5);
        due("hall()", x.hall(), 9);
        due("count(3)", x.count(3), 0);
        due("monk(0, 0, 0)", x.monk(0, 0, 0), 2);
        due("monk(1, 2, 1)", x.monk(1, 2, 1), 7);
        due("monk(1, 2, 0)", x.monk(1, 2, 0), 5);
        due("monk(2, 1, 1)", x.monk(2, 1, 1), 5);
        due("count(1)", x.count(1), 0);
        due("as(1, 4)", x.as(1, 4), 4);
        due("has(2, 1)", x.has(2, 1), 3);
        Check.tell(x, "skill 0 0 1;like 0 0 1;tiring 0;did 0 0;ring 2;hall 4;like 3 3 8");
        due("hall behind: skill", x.monk(0, 0, 0), 5);
        due("hall behind: liking", x.monk(0, 0, 1), 5);
        due("hall behind: kind", x.as(0, 2), NOT);
        due("hall behind: plain", x.as(0, 1), 4);
        due("hall behind: did", x.has(0, 1), NONE);
        due("hall behind: ring", x.count(1), 3);
        due("hall behind: liking told since", x.monk(3, 3, 1), 8);
        Check.tell(x, "hall 7;skill 6 6 0;hall 3;hall 7");
        due("as a new hall: skill", x.monk(6, 6, 0), 5);
        Check.tell(x, "tiring 1;plain 1");
        due("plain again", x.as(1, 2), NOT);
        Check.tell(x, "holy 1;tiring 1");
        due("tiring, not holy", x.as(1, 3), NOT);
    }

    private static void hallBeginsAnew() {
        DutiesHat x = new DutiesHat();
        x.lay(0);
        x.dawn();
        x.keep(0);
        x.keep(1);
        x.lay(5);
        Check.tell(x, "ring 3");
        due("nothing is drawn", x.count(4), 0);
        due("has(0, 0)", x.has(0, 0), NONE);
        due("the book is empty", x.count(2), 0);
        due("often(0, 0)", x.often(0, 0), 0);
        due("back(0)", x.back(0), NOT);
        due("back(1)", x.back(1), NOT);
        due("keep(1)", x.keep(1), 0);
        due("back(1) again", x.back(1), 0);
    }

    private static void hallKeepsWhatWasTold() {
        DutiesHat x = Check.told("hall 5;skill 4 4 7;like 4 0 2;holy 2;ring 2;did 1 3");
        Check.tell(x, "plain 0");
        due("count(0)", x.count(0), 5);
        due("count(1)", x.count(1), 2);
        due("monk(4, 4, 0)", x.monk(4, 4, 0), 7);
        due("monk(4, 0, 1)", x.monk(4, 0, 1), 2);
        due("as(2, 3)", x.as(2, 3), 5);
        due("has(1, 1)", x.has(1, 1), 3);
    }

    private static void yesterdayAsTold() {
        DutiesHat x = Check.told("hall 3;did 0 1");
        x.lay(5);
        x.dawn();
        due("has(0, 1) behind the dawn", x.has(0, 1), 2);
        due("has(1, 1) behind the dawn", x.has(1, 1), 1);
        Check.tell(x, "did 2 2");
        due("has(0, 1) as told ahead", x.has(0, 1), 1);
        due("has(1, 1) was not told", x.has(1, 1), NONE);
        due("has(2, 1) as told now", x.has(2, 1), 2);
        Check.tell(x, "hall 3");
        for (int m = 0; m < 3; m++) {
            due("has(" + m + ", 1) since hall", x.has(m, 1), NONE);
        }
    }

    private static void monk() {
        DutiesHat x = Check.told("hall 3;skill 1 2 0;like 1 2 9");
        int[][] unknown = {{-1, 0}, {0, -1}, {3, 0}, {0, 3}, {Integer.MIN_VALUE, 0}, {0, Integer.MAX_VALUE}};
        for (int[] at : unknown) {
            due("monk(" + at[0] + ", " + at[1] + ", 0)", x.monk(at[0], at[1], 0), UNKNOWN);
            due("monk(" + at[0] + ", " + at[1] + ", 3)", x.monk(at[0], at[1], 3), UNKNOWN);
        }
        due("monk(0, 0, -1)", x.monk(0, 0, -1), OUTSIDE);
        due("monk(0, 0, 3)", x.monk(0, 0, 3), OUTSIDE);
        due("monk(1, 2, 0)", x.monk(1, 2, 0), 0);
        due("monk(1, 2, 1)", x.monk(1, 2, 1), 9);
        due("monk(1, 2, 2)", x.monk(1, 2, 2), 0);
        due("monk(2, 1, 2)", x.monk(2, 1, 2), 1);
        Check.tell(x, "skill 1 2 1");
        due("monk(1, 2, 2) with skill 1", x.monk(1, 2, 2), 1);
    }

    private static void mayByYesterday() {
        DutiesHat x = Check.told("hall 6;tiring 0;tiring 1;holy 2;holy 3;sweet 4;"
                + "did 0 0;did 1 2;did 2 4;did 3 5;did 4 1");
        int[][] may = {
            {0, 0, 1, 1, 1, 1},
            {1, 1, 0, 1, 1, 1},
            {1, 1, 1, 1, 1, 1},
            {1, 1, 1, 1, 1, 1},
            {0, 0, 1, 1, 1, 1},
            {1, 1, 1, 1, 1, 1}};
        for (int m = 0; m < 6; m++) {
            for (int d = 0; d < 6; d++) {
                due("monk(" + m + ", " + d + ", 2)", x.monk(m, d, 2), may[m][d]);
            }
        }
        // What was done is judged by the kind that it has now.
        Check.tell(x, "plain 0;tiring 5");
        due("behind what is plain now", x.monk(0, 1, 2), 1);
        due("behind what is tiring now", x.monk(3, 5, 2), 0);
    }

    private static void as() {
        DutiesHat x = Check.told("hall 4;tiring 1;holy 2;sweet 3;skill 0 0 0;did 0 1;did 1 1;did 2 2;did 3 3");
        int[][] due = {
            {3, 3, NOT, NOT, NOT},
            {2, 2, 2, NOT, NOT},
            {3, NOT, NOT, 3, NOT},
            {4, NOT, NOT, 4, 4}};
        for (int d = 0; d < 4; d++) {
            for (int kind = 0; kind < 5; kind++) {
                due("as(" + d + ", " + kind + ")", x.as(d, kind), due[d][kind]);
            }
        }
        // Monks of an earlier hall are gone.
        DutiesHat less = Check.tell(Check.told("hall 7"), "hall 3");
        due("as(0, 0) of three behind seven", less.as(0, 0), 3);
        due("as(-1, 0)", x.as(-1, 0), UNKNOWN);
        due("as(4, 0)", x.as(4, 0), UNKNOWN);
        due("as(4, 9)", x.as(4, 9), UNKNOWN);
        due("as(0, -1)", x.as(0, -1), OUTSIDE);
        due("as(0, 5)", x.as(0, 5), OUTSIDE);
        x.lay(0);
        due("lay(0) is not lawful, so as stays", x.as(1, 2), 2);
    }
}
