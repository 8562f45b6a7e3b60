/** Promises 15 to 20 at their edges: a method for each sentence that names one, on both sides of it. */
public final class ForetoldEdgesTest {
    private static final int NONE = -1, UNKNOWN = -2, OUTSIDE = -3, NOT = -4;
    private static final int[] DRAWS = {1, 1, 2, 6, 24, 120, 720, 5040};
    private static final int[] RINGS = {0, 2, 3};
    private static final Check CHECK = new Check();
    private static final String ONE_LAWFUL =
            "hall 4;skill 0 1 0;skill 0 2 0;skill 0 3 0;skill 1 2 0;skill 1 3 0;skill 2 3 0";
    private static final String NONE_LAWFUL = "hall 2;skill 0 0 0;skill 0 1 0";
    private static final String PAIR = "hall 2;ring 2;like 0 1 6;like 1 0 6";
    private static final String ROUND = "hall 3;like 0 1 6;like 1 2 6;like 2 0 6";
    /** From draw 0 by rings of two 0 trades with 1, or with 2: the ends 2 and 5. */
    private static final String FORK = "hall 3;ring 2;like 0 1 8;like 0 2 8;like 1 0 6;like 2 0 6";

    /** Four draws are lawful, and by each RING they are SETTLED otherwise. */
    private static final String EACH_RING_APART =
            "hall 3;like 0 1 9;like 1 2 9;like 2 0 9;skill 0 0 0;skill 1 1 8";
    /** Each of seven likes any other duty more than its own by draw 0. */
    private static final String NONE_AT_ITS_OWN =
            "hall 7;like 0 0 0;like 1 1 0;like 2 2 0;like 3 3 0;like 4 4 0;like 5 5 0;like 6 6 0";

    public static void main(String[] args) {
        endsWhat();
        endsOfTodayAlone();
        endsWithoutWantedTrades();
        endsByAnyWantedOnes();
        endsGreatestGladness();
        endsLeastNumber();
        endsEachOnce();
        endsOfManyTrades();
        endsByRing();
        hintMonk();
        hintNothingDrawn();
        hintNone();
        hintMostLiked();
        hintLeastOfSeveral();
        hintByRing();
        hintOfManyTrades();
        lawfulAllOneNone();
        lawfulByYesterday();
        meanRing();
        meanWhatAndPart();
        meanOfNone();
        meanOfOne();
        meanLowestTerms();
        meanOfAll();
        oddsMonkAndDuty();
        oddsRingAndPart();
        oddsOfNone();
        oddsNeverAndAlways();
        oddsSettled();
        toldAnew();
        weekOfOneToSeven();
        weekFiveMonksAtMost();
        weekNone();
        weekFirstByYesterday();
        weekGreatestOfAllTogether();
        weekByEachDayAhead();
        nothingChanges();
        CHECK.end();
    }

    private static void says(String sentence) {
        CHECK.says(sentence);
    }

    private static void due(String call, long got, long want) {
        CHECK.due(call, got, want);
    }

    private static void dueEnds(String of, DutiesHat x, int many, int glad, int number) {
        due(of + ": ends(0)", x.ends(0), many);
        due(of + ": ends(1)", x.ends(1), glad);
        due(of + ": ends(2)", x.ends(2), number);
    }

    private static DutiesHat laid(String text, int number) {
        DutiesHat x = Check.told(text);
        due("lay(" + number + ") by '" + text + "'", x.lay(number), 1);
        return x;
    }

    // ---- 15

    private static void endsWhat() {
        says("15: what 0, 1, 2; OUTSIDE; NOT: nothing is drawn");
        DutiesHat x = Check.told(PAIR);
        int[] drawn = {OUTSIDE, 1, 12, 1, OUTSIDE};
        for (int what = -1; what <= 3; what++) {
            due("ends(" + what + "), nothing drawn", x.ends(what), what < 0 || what > 2 ? OUTSIDE : NOT);
        }
        x.lay(0);
        for (int what = -1; what <= 3; what++) {
            due("ends(" + what + ")", x.ends(what), drawn[what + 1]);
        }
        x.dawn();
        due("ends(0), done", x.ends(0), NOT);
    }

    private static void endsOfTodayAlone() {
        says("15: ENDS, where no TRADE is WANTED: TODAY's alone");
        for (int n = 2; n <= 7; n++) {
            for (int ring : RINGS) {
                DutiesHat x = laid("hall " + n + ";ring " + ring, DRAWS[n] - 1);
                dueEnds("the last of " + n + " by " + ring, x, 1, 5 * n, DRAWS[n] - 1);
                x.lay(0);
                dueEnds("the first of " + n + " by " + ring, x, 1, 5 * n, 0);
            }
        }
        DutiesHat x = laid("hall 2;ring 2;like 0 0 0;like 0 1 0;like 1 0 0;like 1 1 0", 1);
        dueEnds("none is glad", x, 1, 0, 1);
    }

    private static void endsWithoutWantedTrades() {
        says("15: DRAWS without WANTED TRADES");
        // By 0 the trade is wanted: 0 is no end. By 1 it is not.
        dueEnds("from 0", laid(PAIR, 0), 1, 12, 1);
        dueEnds("from 1", laid(PAIR, 1), 1, 12, 1);
        // From 0 by 2 to 4: what lies on the way is no end.
        DutiesHat x = laid("hall 3;ring 2;like 0 1 6;like 1 0 6;like 0 2 7;like 2 1 7", 0);
        dueEnds("from 0 by two trades", x, 1, 20, 4);
    }

    private static void endsByAnyWantedOnes() {
        says("15: to which one comes by any WANTED ones: how many");
        DutiesHat x = laid(FORK, 0);
        due("ends(0)", x.ends(0), 2);
        x.settle();
        due("settled: ends(0)", x.ends(0), 1);
        // One of the two ways is not wanted.
        due("ends(0) if 1 likes it alike", laid(FORK + ";like 1 0 5", 0).ends(0), 1);
        due("ends(2) if 1 likes it alike", laid(FORK + ";like 1 0 5", 0).ends(2), 5);
        due("ends(0) if 2 can not do it", laid(FORK + ";skill 2 0 0", 0).ends(0), 1);
        due("ends(2) if 2 can not do it", laid(FORK + ";skill 2 0 0", 0).ends(2), 2);
        due("ends(0) if neither wants it", laid(FORK + ";like 1 0 5;like 2 0 5", 0).ends(0), 1);
        due("ends(2) if neither wants it", laid(FORK + ";like 1 0 5;like 2 0 5", 0).ends(2), 0);
        // Both ways round a ring of three.
        x = laid(ROUND + ";like 0 2 6;like 2 1 6;like 1 0 6", 0);
        dueEnds("both ways round", x, 2, 18, 3);
    }

    private static void endsGreatestGladness() {
        says("15: the greatest GLADNESS of them");
        dueEnds("by 2 it is one more", laid(FORK + ";like 2 0 7", 0), 2, 20, 5);
        dueEnds("by 1 it is one more", laid(FORK + ";like 1 0 7", 0), 2, 20, 2);
        // The ends are 10 with 31, and by more trades 5 with 29.
        DutiesHat x = laid("hall 4;ring 2;like 0 0 7;like 0 1 7;like 0 3 6;like 1 3 8;like 2 0 9;like 2 2 9;like 3 2 7", 13);
        dueEnds("the lesser number is less glad", x, 2, 31, 10);
    }

    private static void endsLeastNumber() {
        says("15: of those with it the least number");
        dueEnds("alike glad", laid(FORK, 0), 2, 19, 2);
        // From the last draw, whose ends are by the lesser number too: 5 is 2 1 0, its ends 2 and 0.
        DutiesHat x = laid("hall 3;ring 2;like 0 0 8;like 0 1 8;like 1 2 6;like 2 2 6", 5);
        dueEnds("alike glad, from the last", x, 2, 19, 0);
    }

    private static void endsEachOnce() {
        says("15: ENDS are DRAWS: one to which two ways come is one");
        DutiesHat x = laid("hall 4;ring 2;like 0 1 6;like 1 0 6;like 2 3 6;like 3 2 6", 0);
        dueEnds("two pairs in any order", x, 1, 24, 7);
        x = laid("hall 7;ring 2;like 0 1 6;like 1 0 6;like 2 3 6;like 3 2 6;like 4 5 6;like 5 4 6", 0);
        due("three pairs in any order", x.ends(0), 1);
        due("three pairs in any order: ends(1)", x.ends(1), 41);
    }

    private static void endsOfManyTrades() {
        says("15: by any WANTED ones, where all that can be are WANTED");
        // Each of seven likes its own least: 70 trades by 3, 21 by 2. Of them two, or three, can be made, one is left.
        dueEnds("by 3", laid(NONE_AT_ITS_OWN, 0), 280, 30, 147);
        dueEnds("by 2", laid(NONE_AT_ITS_OWN + ";ring 2", 0), 105, 30, 127);
        dueEnds("by 0", laid(NONE_AT_ITS_OWN + ";ring 0", 0), 1, 0, 0);
        // All 70 are wanted, and without the last of them there would be fewer ends.
        DutiesHat last = Check.tellLikings(Check.told("hall 7"), new int[][] {{0, 1, 1, 2, 2, 1, 1},
            {1, 0, 1, 1, 1, 1, 1}, {3, 3, 0, 3, 3, 2, 2}, {2, 3, 3, 0, 2, 2, 3}, {1, 2, 1, 2, 0, 2, 1},
            {1, 1, 1, 1, 1, 0, 1}, {1, 2, 2, 3, 2, 1, 0}});
        last.lay(0);
        dueEnds("by each of 70", last, 777, 15, 2883);
        DutiesHat x = Check.tellLikings(Check.told("hall 7;ring 2"), new int[][] {{0, 1, 4, 5, 7, 9, 1},
            {4, 1, 4, 5, 6, 2, 8}, {1, 3, 1, 6, 1, 6, 8}, {5, 6, 3, 1, 9, 5, 8}, {5, 9, 7, 2, 0, 7, 9},
            {7, 6, 8, 4, 3, 0, 6}, {6, 4, 5, 2, 1, 4, 3}});
        x.lay(0);
        dueEnds("of 1918 draws", x, 73, 55, 4293);
    }

    private static void endsByRing() {
        says("15: by RING 0 there is none");
        dueEnds("by 0", laid(FORK + ";ring 0", 0), 1, 15, 0);
        dueEnds("by 2", laid(FORK, 0), 2, 19, 2);
        dueEnds("by 3", laid(FORK + ";ring 3", 0), 1, 15, 0);
        dueEnds("round by 3", laid(ROUND, 0), 1, 18, 3);
        dueEnds("round by 2", laid(ROUND + ";ring 2", 0), 1, 15, 0);
    }

    // ---- 16

    private static void hintMonk() {
        says("16: UNKNOWN");
        for (int n = 2; n <= 7; n++) {
            DutiesHat x = laid("hall " + n, 0);
            due("of " + n + ": hint(-1)", x.hint(-1), UNKNOWN);
            due("of " + n + ": hint(0)", x.hint(0), NONE);
            due("of " + n + ": hint(n less 1)", x.hint(n - 1), NONE);
            due("of " + n + ": hint(n)", x.hint(n), UNKNOWN);
        }
    }

    private static void hintNothingDrawn() {
        says("16: NOT: nothing is drawn");
        DutiesHat x = Check.told(PAIR);
        due("hint(0)", x.hint(0), NOT);
        x.lay(0);
        due("hint(0), drawn", x.hint(0), 1);
        x.dawn();
        due("hint(0), done", x.hint(0), NOT);
    }

    private static void hintNone() {
        says("16: none");
        DutiesHat x = laid("hall 3;ring 2;like 0 1 6;like 1 0 6;like 2 0 9", 0);
        due("hint(0)", x.hint(0), 1);
        due("hint(1)", x.hint(1), 0);
        due("hint(2), whom nobody wants", x.hint(2), NONE);
        x.settle();
        due("hint(0), settled", x.hint(0), NONE);
        due("hint(1), settled", x.hint(1), NONE);
    }

    private static void hintMostLiked() {
        says("16: the one that it LIKES most");
        due("hint(0), 2 liked most", laid(FORK + ";like 0 2 9", 0).hint(0), 2);
        due("hint(0), 1 liked most", laid(FORK + ";like 0 1 9", 0).hint(0), 1);
        due("hint(0), 1 liked most but not to be had",
                laid(FORK + ";like 0 1 9;like 1 0 5", 0).hint(0), 2);
        due("hint(0), 2 liked most but it can not do it",
                laid(FORK + ";like 0 2 9;skill 0 2 0", 0).hint(0), 1);
    }

    private static void hintLeastOfSeveral() {
        says("16: of several the least");
        due("hint(0), 1 and 2 alike", laid(FORK, 0).hint(0), 1);
        // By 5 (2 1 0): 0 has 2 and wants 1 of MONK 1, 0 of MONK 2.
        String turned = "hall 3;ring 2;like 0 0 8;like 0 1 8;like 1 2 6;like 2 2 6";
        due("hint(0), 0 and 1 alike, the lesser behind", laid(turned, 5).hint(0), 0);
        due("hint(0), 1 by one more", laid(turned + ";like 0 1 9", 5).hint(0), 1);
        // By rings of three 1 has 3 by (0, 1, 3), 2 by (0, 1, 2).
        String three = "hall 4;like 0 1 6;like 1 2 6;like 1 3 6;like 2 0 6;like 3 0 6";
        due("by 3: hint(1), 2 and 3 alike", laid(three, 0).hint(1), 2);
        due("by 3: hint(1), 3 by one more", laid(three + ";like 1 3 7", 0).hint(1), 3);
    }

    private static void hintByRing() {
        says("16: would have by a WANTED TRADE");
        int[] byNone = {NONE, NONE, NONE};
        int[] byTwo = {1, 0, 0};
        int[] round = {1, 2, 0};
        for (int m = 0; m < 3; m++) {
            due("fork by 0: hint(" + m + ")", laid(FORK + ";ring 0", 0).hint(m), byNone[m]);
            due("fork by 2: hint(" + m + ")", laid(FORK, 0).hint(m), byTwo[m]);
            due("fork by 3: hint(" + m + ")", laid(FORK + ";ring 3", 0).hint(m), byNone[m]);
            due("round by 3: hint(" + m + ")", laid(ROUND, 0).hint(m), round[m]);
            due("round by 2: hint(" + m + ")", laid(ROUND + ";ring 2", 0).hint(m), byNone[m]);
        }
    }

    private static void hintOfManyTrades() {
        says("16: of all DUTIES that it would have, where all that can be are WANTED");
        for (String ring : new String[] {";ring 2", ";ring 3"}) {
            DutiesHat x = laid(NONE_AT_ITS_OWN + ring, 0);
            for (int m = 0; m < 7; m++) {
                due("hint(" + m + ")" + ring, x.hint(m), m == 0 ? 1 : 0);
                DutiesHat last = laid(NONE_AT_ITS_OWN + ring + ";like " + m + " " + (m == 6 ? 5 : 6) + " 6", 0);
                due("hint(" + m + ")" + ring + ", the last is liked most", last.hint(m), m == 6 ? 5 : 6);
            }
        }
    }

    // ---- 17

    private static void lawfulAllOneNone() {
        says("17: how many DRAWS are LAWFUL");
        for (int n = 2; n <= 7; n++) {
            due("of " + n + ": all", Check.told("hall " + n).lawful(), DRAWS[n]);
        }
        due("one", Check.told(ONE_LAWFUL).lawful(), 1);
        due("none", Check.told(ONE_LAWFUL + ";skill 3 3 0").lawful(), 0);
        due("none of two", Check.told(NONE_LAWFUL).lawful(), 0);
        due("one of two", Check.told("hall 2;skill 0 0 0").lawful(), 1);
    }

    private static void lawfulByYesterday() {
        says("17: LAWFUL by YESTERDAY");
        DutiesHat x = Check.told("hall 3;holy 0;holy 1;holy 2");
        due("at first", x.lawful(), 6);
        x.lay(0);
        due("drawn, not done", x.lawful(), 6);
        x.keep(0);
        x.dawn();
        due("done", x.lawful(), 2);
        x.back(0);
        due("back", x.lawful(), 6);
        Check.tell(x, "did 0 0");
        due("told", x.lawful(), 4);
        Check.tell(x, "plain 0");
        due("plain", x.lawful(), 6);
    }

    // ---- 18

    private static void meanRing() {
        says("18: SETTLED by a RING (0, 2, 3)");
        int[] due = {OUTSIDE, 11, OUTSIDE, 12, 11, OUTSIDE};
        for (int own : RINGS) {
            DutiesHat x = Check.told(PAIR + ";ring " + own);
            for (int ring = -1; ring <= 4; ring++) {
                due("RING " + own + ": mean(" + ring + ", 1, 0)", x.mean(ring, 1, 0), due[ring + 1]);
            }
            due("mean(least, 1, 0)", x.mean(Integer.MIN_VALUE, 1, 0), OUTSIDE);
            due("mean(greatest, 1, 0)", x.mean(Integer.MAX_VALUE, 1, 0), OUTSIDE);
        }
        int[] glad = {OUTSIDE, 20, OUTSIDE, 24, 23, OUTSIDE};
        int[] work = {OUTSIDE, 63, OUTSIDE, 15, 63, OUTSIDE};
        for (int own : RINGS) {
            DutiesHat x = Check.told(EACH_RING_APART + ";ring " + own);
            for (int ring = -1; ring <= 4; ring++) {
                due("of three, RING " + own + ": mean(" + ring + ", 0, 0)", x.mean(ring, 0, 0), work[ring + 1]);
                due("of three, RING " + own + ": mean(" + ring + ", 1, 0)", x.mean(ring, 1, 0), glad[ring + 1]);
            }
        }
    }

    private static void meanWhatAndPart() {
        says("18: WORK (what 0), GLADNESS (1); above (part 0), below (1)");
        // WORK 10 and 14, GLADNESS 10 and 15.
        DutiesHat x = Check.told("hall 2;skill 0 1 9;like 0 1 9;like 1 0 6");
        int[][] due = {{12, 1}, {25, 2}};
        for (int what = -1; what <= 2; what++) {
            for (int part = -1; part <= 2; part++) {
                boolean fits = what >= 0 && what <= 1 && part >= 0 && part <= 1;
                due("mean(0, " + what + ", " + part + ")", x.mean(0, what, part), fits ? due[what][part] : OUTSIDE);
            }
        }
    }

    private static void meanOfNone() {
        says("18: NOT: no DRAW is LAWFUL");
        DutiesHat x = Check.told(NONE_LAWFUL);
        for (int ring : RINGS) {
            for (int what = 0; what < 2; what++) {
                due("mean(" + ring + ", " + what + ", 0)", x.mean(ring, what, 0), NOT);
                due("mean(" + ring + ", " + what + ", 1)", x.mean(ring, what, 1), NOT);
            }
            due("mean(" + ring + ", 2, 0)", x.mean(ring, 2, 0), OUTSIDE);
            due("mean(" + ring + ", 0, 2)", x.mean(ring, 0, 2), OUTSIDE);
        }
        due("mean(1, 0, 0)", x.mean(1, 0, 0), OUTSIDE);
    }

    private static void meanOfOne() {
        says("18: the mean, where one DRAW is LAWFUL");
        DutiesHat x = Check.told(ONE_LAWFUL + ";skill 0 0 1;like 3 3 9");
        for (int ring : RINGS) {
            due("mean(" + ring + ", 0, 0)", x.mean(ring, 0, 0), 16);
            due("mean(" + ring + ", 0, 1)", x.mean(ring, 0, 1), 1);
            due("mean(" + ring + ", 1, 0)", x.mean(ring, 1, 0), 24);
            due("mean(" + ring + ", 1, 1)", x.mean(ring, 1, 1), 1);
        }
    }

    private static void meanLowestTerms() {
        says("18: parts are told in lowest terms");
        // Of three: LIKING of 0 at 0 is 6: two draws of six are one more: 15 and 1/3; 7 at 1 for 1: 15 and 1; 8: 16.
        String[] more = {"like 0 0 6", "like 0 0 7", "like 0 0 8", "like 0 0 5"};
        int[][] due = {{46, 3}, {47, 3}, {16, 1}, {15, 1}};
        for (int i = 0; i < more.length; i++) {
            DutiesHat x = Check.told("hall 3;" + more[i]);
            due(more[i] + ": above", x.mean(0, 1, 0), due[i][0]);
            due(more[i] + ": below", x.mean(0, 1, 1), due[i][1]);
        }
        DutiesHat x = Check.told("hall 2;like 0 0 0;like 0 1 0;like 1 0 0;like 1 1 0");
        due("none is glad: above", x.mean(2, 1, 0), 0);
        due("none is glad: below", x.mean(2, 1, 1), 1);
        Check.tell(x, "like 0 0 1");
        due("one is glad once: above", x.mean(0, 1, 0), 1);
        due("one is glad once: below", x.mean(0, 1, 1), 2);
    }

    private static void meanOfAll() {
        says("18: ALL LAWFUL DRAWS, alike likely");
        for (int n = 2; n <= 7; n++) {
            DutiesHat x = Check.told("hall " + n + ";skill 0 0 6");
            for (int ring : RINGS) {
                due("of " + n + ": mean(" + ring + ", 0, 0)", x.mean(ring, 0, 0), 5 * n * n + 1);
                due("of " + n + ": mean(" + ring + ", 0, 1)", x.mean(ring, 0, 1), n);
            }
            // Without the draws in which 0 has 0.
            Check.tell(x, "skill 0 0 0");
            due("of " + n + ", 0 not at 0: mean(0, 0, 0)", x.mean(0, 0, 0), 5 * n);
            due("of " + n + ", 0 not at 0: mean(0, 0, 1)", x.mean(0, 0, 1), 1);
        }
    }

    // ---- 19

    private static void oddsMonkAndDuty() {
        says("19: UNKNOWN");
        for (int n = 2; n <= 7; n++) {
            DutiesHat x = Check.told("hall " + n);
            for (int ring : RINGS) {
                due("of " + n + ": odds(-1, 0)", x.odds(-1, 0, ring, 1), UNKNOWN);
                due("of " + n + ": odds(0, -1)", x.odds(0, -1, ring, 1), UNKNOWN);
                due("of " + n + ": odds(n, 0)", x.odds(n, 0, ring, 1), UNKNOWN);
                due("of " + n + ": odds(0, n)", x.odds(0, n, ring, 1), UNKNOWN);
                due("of " + n + ": odds(0, n less 1)", x.odds(0, n - 1, ring, 1), n);
                due("of " + n + ": odds(n less 1, 0)", x.odds(n - 1, 0, ring, 1), n);
            }
        }
    }

    private static void oddsRingAndPart() {
        says("19: by a RING (0, 2, 3); above (part 0), below (1)");
        DutiesHat x = Check.told("hall 3");
        for (int ring = -1; ring <= 4; ring++) {
            for (int part = -1; part <= 2; part++) {
                boolean fits = ring == 0 || ring == 2 || ring == 3;
                int due = !fits || part < 0 || part > 1 ? OUTSIDE : part == 0 ? 1 : 3;
                due("odds(0, 0, " + ring + ", " + part + ")", x.odds(0, 0, ring, part), due);
            }
        }
    }

    private static void oddsOfNone() {
        says("19: NOT: no DRAW is LAWFUL");
        DutiesHat x = Check.told(NONE_LAWFUL);
        for (int ring : RINGS) {
            due("odds(0, 0, " + ring + ", 0)", x.odds(0, 0, ring, 0), NOT);
            due("odds(0, 0, " + ring + ", 1)", x.odds(0, 0, ring, 1), NOT);
        }
        Check.tell(x, "skill 0 1 1");
        for (int ring : RINGS) {
            due("one is lawful: odds(0, 0, " + ring + ", 0)", x.odds(0, 0, ring, 0), 0);
            due("one is lawful: odds(0, 1, " + ring + ", 0)", x.odds(0, 1, ring, 0), 1);
        }
    }

    private static void oddsNeverAndAlways() {
        says("19: the odds of what never is, of what always is");
        DutiesHat x = Check.told(ONE_LAWFUL);
        for (int m = 0; m < 4; m++) {
            for (int d = 0; d < 4; d++) {
                due("odds(" + m + ", " + d + ", 0, 0)", x.odds(m, d, 0, 0), m == d ? 1 : 0);
                due("odds(" + m + ", " + d + ", 0, 1)", x.odds(m, d, 0, 1), 1);
            }
        }
    }

    private static void oddsSettled() {
        says("19: the odds that a MONK has a DUTY then (SETTLED)");
        int[][] byRing = {{0, 1, 2}, {2, 1, 1}, {3, 1, 2}};
        for (int own : RINGS) {
            DutiesHat x = Check.told(PAIR + ";ring " + own);
            for (int[] row : byRing) {
                due("odds(0, 1, " + row[0] + ", 0)", x.odds(0, 1, row[0], 0), row[1]);
                due("odds(0, 1, " + row[0] + ", 1)", x.odds(0, 1, row[0], 1), row[2]);
            }
            due("odds(0, 0, 2, 0)", x.odds(0, 0, 2, 0), 0);
        }
        int[][] ofThree = {{0, 1, 4}, {2, 3, 4}, {3, 1, 2}};
        for (int own : RINGS) {
            DutiesHat x = Check.told(EACH_RING_APART + ";ring " + own);
            for (int[] row : ofThree) {
                due("of three: odds(1, 2, " + row[0] + ", 0)", x.odds(1, 2, row[0], 0), row[1]);
                due("of three: odds(1, 2, " + row[0] + ", 1)", x.odds(1, 2, row[0], 1), row[2]);
            }
        }
    }

    private static void toldAnew() {
        says("17 to 19: by what is told and done now, whatever was asked ahead");
        DutiesHat x = Check.told("hall 2;holy 0;skill 0 0 9;like 0 0 1");
        dueAll("at first", x, 2, 12, 8);
        x.keep(0);
        x.lay(0);
        dueAll("drawn", x, 2, 12, 8);
        x.dawn();
        dueAll("done", x, 1, 10, 10);
        due("odds(0, 0, 3, 0), done", x.odds(0, 0, 3, 0), 0);
        x.back(0);
        dueAll("back", x, 2, 12, 8);
        due("odds(0, 0, 3, 1), back", x.odds(0, 0, 3, 1), 2);
        Check.tell(x, "skill 1 0 0");
        dueAll("told", x, 1, 14, 6);
        due("odds(0, 0, 3, 1), told", x.odds(0, 0, 3, 1), 1);
        Check.tell(x, "hall 2");
        dueAll("as at first", x, 2, 10, 10);
    }

    private static void dueAll(String when, DutiesHat x, int draws, int work, int glad) {
        due("lawful(), " + when, x.lawful(), draws);
        for (int ring : RINGS) {
            due("mean(" + ring + ", 0, 0), " + when, x.mean(ring, 0, 0), work);
            due("mean(" + ring + ", 1, 0), " + when, x.mean(ring, 1, 0), glad);
        }
    }

    // ---- 20

    private static void dueWeeks(String of, DutiesHat x, int... works) {
        for (int w = 1; w <= works.length; w++) {
            due(of + ": week(" + w + ")", x.week(w), works[w - 1]);
        }
    }

    private static void weekOfOneToSeven() {
        says("20: A WEEK of w DAWNS (1 .. 7)");
        DutiesHat x = new DutiesHat();
        due("week(0)", x.week(0), OUTSIDE);
        due("week(-1)", x.week(-1), OUTSIDE);
        due("week(8)", x.week(8), OUTSIDE);
        due("week(least)", x.week(Integer.MIN_VALUE), OUTSIDE);
        due("week(greatest)", x.week(Integer.MAX_VALUE), OUTSIDE);
        dueWeeks("four", x, 20, 40, 60, 80, 100, 120, 140);
    }

    private static void weekFiveMonksAtMost() {
        says("20: 5 MONKS at most; NOT: more than 5 MONKS");
        for (int n = 2; n <= 7; n++) {
            DutiesHat x = Check.told("hall " + n);
            for (int w = 0; w <= 8; w++) {
                due("of " + n + ": week(" + w + ")", x.week(w), w < 1 || w > 7 ? OUTSIDE : n > 5 ? NOT : 5 * n * w);
            }
        }
    }

    private static void weekNone() {
        says("20: none: there is no such week");
        dueWeeks("no draw is lawful", Check.told(NONE_LAWFUL), NONE, NONE, NONE, NONE, NONE, NONE, NONE);
        dueWeeks("one day alone", Check.told("hall 2;tiring 1;skill 1 1 0"), 10, NONE, NONE, NONE, NONE, NONE, NONE);
        dueWeeks("all days", Check.told("hall 2;tiring 1"), 10, 20, 30, 40, 50, 60, 70);
        dueWeeks("all tiring", Check.told("hall 2;tiring 0;tiring 1"), 10, NONE, NONE);
        dueWeeks("one holy that one alone can do", Check.told("hall 2;holy 1;skill 1 1 0"), 10, NONE, NONE);
        dueWeeks("one sweet that one alone can do", Check.told("hall 2;sweet 1;skill 1 1 0"), 10, 20, 30);
        // The least work that there can be is not none.
        dueWeeks("the least work", Check.told("hall 2;skill 0 0 1;skill 0 1 0;skill 1 0 0;skill 1 1 1"), 2, 4, 6);
    }

    private static void weekFirstByYesterday() {
        says("20: the first by YESTERDAY");
        DutiesHat x = Check.told("hall 2;holy 0;skill 0 0 9");
        dueWeeks("nothing was done", x, 14, 24, 38, 48, 62, 72, 86);
        x.lay(0);
        dueWeeks("drawn, not done", x, 14, 24);
        x.dawn();
        dueWeeks("done", x, 10, 24, 34, 48, 58, 72, 82);
        Check.tell(x, "did 0 0");
        dueWeeks("told", x, 10, 24, 34, 48, 58, 72, 82);
        Check.tell(x, "did 0 1");
        dueWeeks("told another", x, 14, 24, 38);
        Check.tell(x, "hall 2;tiring 0;tiring 1;did 0 0");
        dueWeeks("behind a tiring one", x, NONE, NONE);
    }

    private static void weekGreatestOfAllTogether() {
        says("20: the greatest WORK of all together");
        // The greatest work of a day leaves less, or nothing, for the next.
        DutiesHat x = Check.told("hall 3;skill 1 2 0;skill 2 2 1;skill 1 0 8;skill 0 1 8;holy 0;tiring 2");
        dueWeeks("not day by day", x, 18, 32, 49, 64, 81, 96, 113);
        Check.tell(x, "hall 3;skill 1 2 0;skill 2 1 0;skill 0 2 1;tiring 1;holy 2");
        dueWeeks("another way out", x, 15, 26, 41, 52, 67, 78, 93);
        Check.tell(x, "hall 3;skill 1 0 1;skill 0 1 9;skill 0 0 0;skill 2 2 8;holy 0;holy 1;holy 2");
        dueWeeks("all holy", x, 19, 33, 51, 66, 84, 99, 117);
        Check.tell(x, "hall 5;skill 0 0 9;skill 1 1 9;skill 2 2 9;skill 3 3 9;skill 4 4 9");
        dueWeeks("the greatest of five", x, 45, 90, 135, 180, 225, 270, 315);
    }

    private static void weekByEachDayAhead() {
        says("20: each by what was done the day ahead");
        // MONK 0 alone is good at the holy duty: each second day; at the tiring one too, at a plain one each day.
        dueWeeks("holy", Check.told("hall 5;skill 0 0 9;holy 0"), 29, 54, 83, 108, 137, 162, 191);
        dueWeeks("tiring", Check.told("hall 5;skill 0 0 9;tiring 0"), 29, 54, 83, 108, 137, 162, 191);
        dueWeeks("plain", Check.told("hall 5;skill 0 0 9"), 29, 58, 87, 116, 145, 174, 203);
        dueWeeks("sweet", Check.told("hall 5;skill 0 0 9;sweet 0"), 29, 58, 87, 116, 145, 174, 203);
        // At two holy ones it goes from one to the other, from one tiring to another it cannot.
        dueWeeks("two holy", Check.told("hall 5;skill 0 0 9;skill 0 1 9;holy 0;holy 1"), 29, 58, 87, 116);
        dueWeeks("two tiring", Check.told("hall 5;skill 0 0 9;skill 0 1 9;tiring 0;tiring 1"), 29, 54, 83, 108);
    }

    private static void nothingChanges() {
        says("15 to 20: FORETOLD (nothing changes)");
        DutiesHat x = laid(FORK + ";did 0 2", 0);
        x.keep(1);
        for (int round = 0; round < 2; round++) {
            dueEnds("round " + round, x, 2, 19, 2);
            due("hint(0)", x.hint(0), 1);
            due("lawful()", x.lawful(), 6);
            due("mean(3, 1, 1)", x.mean(3, 1, 1), 3);
            due("odds(0, 0, 2, 1)", x.odds(0, 0, 2, 1), 1);
            due("week(7)", x.week(7), 105);
            due("today(0)", x.today(0), 0);
            due("has(0, 1)", x.has(0, 1), 2);
            due("count(1)", x.count(1), 2);
            due("count(2)", x.count(2), 0);
            due("back(1)", x.back(1), 0);
        }
    }
}
