/** Promises 15 to 20: ends, hint, lawful, mean, odds, week. */
public final class ForetoldTest {
    private static final int NONE = -1, UNKNOWN = -2, OUTSIDE = -3, NOT = -4;
    private static final String FORKED = "hall 3;ring 2;like 0 1 8;like 0 2 9;like 1 0 9;like 2 0 9";
    private static final Check CHECK = new Check();

    public static void main(String[] args) {
        ends();
        endsOfMany();
        endsRefused();
        hint();
        hintRefused();
        lawful();
        mean();
        meanRefused();
        odds();
        oddsRefused();
        foretoldAnew();
        week();
        weekRefused();
        nothingChanges();
        CHECK.end();
    }

    private static void due(String call, long got, long want) {
        CHECK.due(call, got, want);
    }

    private static void dueEnds(String of, DutiesHat x, int many, int glad, int number) {
        due(of + ": ends(0)", x.ends(0), many);
        due(of + ": ends(1)", x.ends(1), glad);
        due(of + ": ends(2)", x.ends(2), number);
    }

    private static void ends() {
        DutiesHat x = Check.told(FORKED);
        x.lay(0);
        dueEnds("forked", x, 2, 23, 5);
        x.settle();
        dueEnds("settled", x, 1, 22, 2);
        Check.tell(x, "like 0 1 9");
        x.lay(0);
        dueEnds("alike glad", x, 2, 23, 2);
        Check.tell(x, "ring 3");
        x.lay(0);
        dueEnds("by ring 3", x, 1, 15, 0);
        Check.tell(x, "ring 0");
        x.lay(0);
        dueEnds("by ring 0", x, 1, 15, 0);
        // Both ways round a ring of three.
        Check.tell(x, "hall 3;like 0 1 6;like 1 2 6;like 2 0 6;like 0 2 6;like 2 1 6;like 1 0 7");
        x.lay(0);
        dueEnds("both ways round", x, 2, 19, 4);
        // A way goes on behind its first trade.
        Check.tell(x, "hall 3;ring 2;like 0 1 6;like 1 0 6;like 0 2 7;like 2 1 7");
        x.lay(0);
        dueEnds("two trades on", x, 1, 20, 4);
    }

    private static void endsOfMany() {
        // 7 monks in pairs that all want each other: from 0 the pairs trade in any order, and come to one end.
        DutiesHat x = Check.told("hall 7;ring 2;like 0 1 9;like 1 0 9;like 2 3 9;like 3 2 9;like 4 5 9;like 5 4 9");
        x.lay(0);
        due("settle() ahead of it", x.settle(), 3);
        int end = x.today(0);
        x.lay(0);
        dueEnds("pairs", x, 1, 59, end);
        x.lay(5039);
        dueEnds("the last draw", x, 1, 35, 5039);
        // Two ways down to draw 0.
        Check.tell(x, "hall 4;ring 2;like 0 0 9;like 1 1 9;like 2 2 9;like 3 3 9");
        x.lay(7);
        dueEnds("two ways to one end", x, 1, 36, 0);
        // The ends 15 and 1 are alike glad.
        Check.tell(x, "hall 4;ring 2;like 0 0 8;like 0 2 9;like 2 0 7;like 2 3 8;like 3 2 6");
        x.lay(21);
        dueEnds("alike glad, the lesser behind", x, 2, 27, 1);
        // The end 10 has 31, the end 5 has 29.
        Check.tell(x, "hall 4;ring 2;like 0 0 7;like 0 1 7;like 0 3 6;like 1 3 8;like 2 0 9;like 2 2 9;like 3 2 7");
        x.lay(13);
        dueEnds("the lesser is less glad", x, 2, 31, 10);
    }

    private static void endsRefused() {
        DutiesHat x = new DutiesHat();
        due("ends(0), nothing drawn", x.ends(0), NOT);
        due("ends(3), nothing drawn", x.ends(3), OUTSIDE);
        x.lay(0);
        due("ends(-1)", x.ends(-1), OUTSIDE);
        due("ends(3)", x.ends(3), OUTSIDE);
    }

    private static void hint() {
        DutiesHat x = Check.told(FORKED);
        x.lay(0);
        due("hint(0)", x.hint(0), 2);
        due("hint(1)", x.hint(1), 0);
        due("hint(2)", x.hint(2), 0);
        Check.tell(x, "like 0 1 9");
        x.lay(0);
        due("hint(0), the least of two", x.hint(0), 1);
        Check.tell(x, "like 2 0 5");
        x.lay(0);
        due("hint(2), not wanted", x.hint(2), NONE);
        Check.tell(x, "ring 0");
        x.lay(0);
        due("hint(0) by 0", x.hint(0), NONE);
        Check.tell(x, "hall 4;like 0 1 6;like 1 2 6;like 2 0 6;like 1 3 7;like 3 0 6");
        x.lay(0);
        due("hint(0) by 3", x.hint(0), 1);
        due("hint(1) by 3", x.hint(1), 3);
        due("hint(2) by 3", x.hint(2), 0);
        due("hint(3) by 3", x.hint(3), 0);
        // The greatest liking of all is no hint where nobody gives the duty.
        Check.tell(x, "hall 3;ring 2;like 0 1 9;like 0 2 6;like 2 0 6");
        x.lay(0);
        due("hint(0) of what can be had", x.hint(0), 2);
        // The lesser duty comes by the later trade: alike liked it is told, less liked it is not.
        Check.tell(x, "hall 3;ring 2;like 0 1 9;like 0 0 9;like 1 2 9;like 2 2 9");
        x.lay(5);
        due("hint(0), alike liked", x.hint(0), 0);
        Check.tell(x, "like 0 0 8");
        x.lay(5);
        due("hint(0), less liked", x.hint(0), 1);
    }

    private static void hintRefused() {
        DutiesHat x = new DutiesHat();
        due("hint(0), nothing drawn", x.hint(0), NOT);
        due("hint(4), nothing drawn", x.hint(4), UNKNOWN);
        x.lay(0);
        due("hint(-1)", x.hint(-1), UNKNOWN);
        due("hint(4)", x.hint(4), UNKNOWN);
        due("hint(3)", x.hint(3), NONE);
    }

    private static void lawful() {
        DutiesHat x = new DutiesHat();
        int[] draws = {2, 6, 24, 120, 720, 5040};
        for (int n = 2; n <= 7; n++) {
            Check.tell(x, "hall " + n);
            due("lawful() of " + n, x.lawful(), draws[n - 2]);
            Check.tell(x, "skill 0 0 0");
            due("lawful() of " + n + ", 0 not at 0", x.lawful(), draws[n - 2] - draws[n - 2] / n);
        }
        // No monk may have its own duty again: 44 of 120.
        Check.tell(x, "hall 5;holy 0;holy 1;holy 2;holy 3;holy 4");
        x.lay(0);
        x.dawn();
        due("lawful() with none at its own", x.lawful(), 44);
        Check.tell(x, "hall 2;tiring 0;tiring 1;did 0 1");
        due("lawful() of none", x.lawful(), 0);
    }

    private static void dueMean(String of, DutiesHat x, int ring, int what, int above, int below) {
        due(of + ": mean(" + ring + ", " + what + ", 0)", x.mean(ring, what, 0), above);
        due(of + ": mean(" + ring + ", " + what + ", 1)", x.mean(ring, what, 1), below);
    }

    private static void mean() {
        DutiesHat x = Check.told("hall 2;like 0 1 9;like 1 0 8;skill 0 0 1;skill 1 1 2");
        // Draw 0: work 3, gladness 10; draw 1: work 10, gladness 17.
        dueMean("two", x, 0, 0, 13, 2);
        dueMean("two", x, 0, 1, 27, 2);
        dueMean("two", x, 2, 0, 10, 1);
        dueMean("two", x, 2, 1, 17, 1);
        dueMean("two", x, 3, 0, 13, 2);
        dueMean("two", x, 3, 1, 27, 2);
        // Three: 15 19 19 27 15 19 by their numbers; rings of two mend the 19s, rings of three the 15s.
        Check.tell(x, "hall 3;like 0 1 9;like 1 2 9;like 2 0 9");
        dueMean("three", x, 0, 1, 19, 1);
        dueMean("three", x, 2, 1, 23, 1);
        dueMean("three", x, 3, 1, 23, 1);
        dueMean("three", x, 3, 0, 15, 1);
        Check.tell(x, "skill 0 0 0");
        // Without the draws 0 and 1: 19 27 15 19.
        dueMean("three, 0 not at 0", x, 0, 1, 20, 1);
        dueMean("three, 0 not at 0", x, 2, 1, 24, 1);
        dueMean("three, 0 not at 0", x, 3, 1, 23, 1);
        // Gladness 0 is told as 0 / 1.
        Check.tell(x, "hall 2;like 0 0 0;like 0 1 0;like 1 0 0;like 1 1 0");
        dueMean("none glad", x, 0, 1, 0, 1);
        // The ring that is told to mean counts, not the RING.
        Check.tell(x, "hall 2;ring 0;like 0 1 9;like 1 0 9");
        dueMean("ring 0", x, 2, 1, 18, 1);
    }

    private static void meanRefused() {
        DutiesHat x = new DutiesHat();
        int[][] outside = {{1, 0, 0}, {4, 0, 0}, {-1, 0, 0}, {5, 0, 0}, {0, 2, 0}, {0, -1, 0}, {2, 0, 2}, {3, 1, -1}};
        for (int round = 0; round < 2; round++) {
            for (int[] t : outside) {
                due("mean(" + t[0] + ", " + t[1] + ", " + t[2] + ")", x.mean(t[0], t[1], t[2]), OUTSIDE);
            }
            Check.tell(x, "hall 2;skill 0 0 0;skill 0 1 0");
        }
        for (int ring : new int[] {0, 2, 3}) {
            due("mean(" + ring + ", 1, 1) of none", x.mean(ring, 1, 1), NOT);
        }
    }

    private static void odds() {
        DutiesHat x = Check.told("hall 3;skill 0 0 0");
        due("odds(0, 0, 0, 0)", x.odds(0, 0, 0, 0), 0);
        due("odds(0, 0, 0, 1)", x.odds(0, 0, 0, 1), 1);
        due("odds(0, 1, 0, 0)", x.odds(0, 1, 0, 0), 1);
        due("odds(0, 1, 0, 1)", x.odds(0, 1, 0, 1), 2);
        due("odds(1, 1, 0, 0)", x.odds(1, 1, 0, 0), 1);
        due("odds(1, 1, 0, 1)", x.odds(1, 1, 0, 1), 4);
        due("odds(1, 0, 0, 1)", x.odds(1, 0, 0, 1), 2);
        Check.tell(x, "hall 2;like 0 1 9;like 1 0 8");
        due("odds(0, 1, 2, 0)", x.odds(0, 1, 2, 0), 1);
        due("odds(0, 1, 2, 1)", x.odds(0, 1, 2, 1), 1);
        due("odds(0, 0, 2, 0)", x.odds(0, 0, 2, 0), 0);
        due("odds(0, 1, 0, 1)", x.odds(0, 1, 0, 1), 2);
        Check.tell(x, "hall 7");
        due("odds(6, 0, 3, 0)", x.odds(6, 0, 3, 0), 1);
        due("odds(6, 0, 3, 1)", x.odds(6, 0, 3, 1), 7);
    }

    private static void oddsRefused() {
        DutiesHat x = new DutiesHat();
        due("odds(4, 0, 0, 0)", x.odds(4, 0, 0, 0), UNKNOWN);
        due("odds(0, 4, 1, 9)", x.odds(0, 4, 1, 9), UNKNOWN);
        due("odds(-1, 0, 0, 0)", x.odds(-1, 0, 0, 0), UNKNOWN);
        due("odds(0, -1, 0, 0)", x.odds(0, -1, 0, 0), UNKNOWN);
        due("odds(0, 0, 1, 0)", x.odds(0, 0, 1, 0), OUTSIDE);
        due("odds(0, 0, 4, 0)", x.odds(0, 0, 4, 0), OUTSIDE);
        due("odds(0, 0, 0, 2)", x.odds(0, 0, 0, 2), OUTSIDE);
        due("odds(0, 0, 0, -1)", x.odds(0, 0, 0, -1), OUTSIDE);
        Check.tell(x, "hall 2;skill 0 0 0;skill 0 1 0");
        due("odds of none", x.odds(0, 0, 2, 0), NOT);
        due("odds of none, part 2", x.odds(0, 0, 2, 2), OUTSIDE);
        due("odds of none, monk 2", x.odds(2, 0, 2, 0), UNKNOWN);
    }

    /** What is foretold follows YESTERDAY, whichever call changes it. */
    private static void foretoldAnew() {
        DutiesHat x = Check.told("hall 2;holy 0;skill 0 0 9");
        due("lawful() at first", x.lawful(), 2);
        due("mean(3, 0, 0) at first", x.mean(3, 0, 0), 12);
        due("odds(0, 0, 2, 1) at first", x.odds(0, 0, 2, 1), 2);
        x.keep(0);
        x.lay(0);
        due("lawful() behind lay", x.lawful(), 2);
        x.dawn();
        due("lawful() behind dawn", x.lawful(), 1);
        due("mean(3, 0, 0) behind dawn", x.mean(3, 0, 0), 10);
        due("odds(0, 1, 2, 1) behind dawn", x.odds(0, 1, 2, 1), 1);
        due("odds(0, 0, 2, 0) behind dawn", x.odds(0, 0, 2, 0), 0);
        x.back(0);
        due("lawful() behind back", x.lawful(), 2);
        due("mean(3, 0, 0) behind back", x.mean(3, 0, 0), 12);
        due("odds(0, 1, 2, 1) behind back", x.odds(0, 1, 2, 1), 2);
        Check.tell(x, "skill 1 1 0");
        due("lawful() behind a text", x.lawful(), 1);
        due("mean(3, 0, 0) behind a text", x.mean(3, 0, 0), 10);
    }

    private static void dueWeeks(String of, DutiesHat x, int... works) {
        for (int w = 1; w <= works.length; w++) {
            due(of + ": week(" + w + ")", x.week(w), works[w - 1]);
        }
    }

    private static void week() {
        DutiesHat x = Check.told("hall 2;skill 0 0 9;holy 0");
        dueWeeks("turn by turn", x, 14, 24, 38, 48, 62, 72, 86);
        Check.tell(x, "did 0 0");
        dueWeeks("behind the holy one", x, 10, 24, 34, 48, 58, 72, 82);
        Check.tell(x, "hall 2;tiring 0;tiring 1");
        dueWeeks("one day alone", x, 10, NONE, NONE, NONE, NONE, NONE, NONE);
        Check.tell(x, "did 0 0");
        dueWeeks("not a day", x, NONE, NONE, NONE, NONE, NONE, NONE, NONE);
        Check.tell(x, "hall 5;skill 0 0 9;skill 1 1 9;skill 2 2 9;skill 3 3 9;skill 4 4 9");
        dueWeeks("five", x, 45, 90, 135, 180, 225, 270, 315);
        Check.tell(x, "holy 0;tiring 1");
        dueWeeks("five, one holy, one tiring", x, 45, 82, 127, 164, 209, 246, 291);
        // The one that could do it alone is tired each second day.
        Check.tell(x, "hall 2;tiring 0;skill 1 0 0");
        dueWeeks("tired", x, 10, NONE, NONE);
        // What is drawn today is not done yet.
        Check.tell(x, "hall 2;holy 0;holy 1;skill 0 0 9");
        x.lay(0);
        due("week(1) with a draw laid", x.week(1), 14);
        x.dawn();
        due("week(1) behind the dawn", x.week(1), 10);
    }

    private static void weekRefused() {
        DutiesHat x = new DutiesHat();
        for (int n : new int[] {4, 5, 6, 7}) {
            Check.tell(x, "hall " + n);
            due("week(0) of " + n, x.week(0), OUTSIDE);
            due("week(8) of " + n, x.week(8), OUTSIDE);
            due("week(-1) of " + n, x.week(-1), OUTSIDE);
            due("week(7) of " + n, x.week(7), n > 5 ? NOT : 35 * n);
        }
    }

    private static void nothingChanges() {
        DutiesHat x = Check.told(FORKED + ";did 0 2");
        x.lay(0);
        x.ends(0);
        x.hint(0);
        x.lawful();
        x.mean(2, 1, 0);
        x.odds(0, 0, 3, 0);
        x.week(7);
        due("today(0)", x.today(0), 0);
        due("has(0, 1)", x.has(0, 1), 2);
        due("count(1)", x.count(1), 2);
        due("count(2)", x.count(2), 0);
    }
}
