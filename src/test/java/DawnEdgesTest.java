/** Promises 8 to 14 at their edges: a method for each sentence that names one, on both sides of it. */
public final class DawnEdgesTest {
    private static final int NONE = -1, UNKNOWN = -2, OUTSIDE = -3, NOT = -4, FULL = -5;
    private static final int[] DRAWS = {1, 1, 2, 6, 24, 120, 720, 5040};
    private static final Check CHECK = new Check();
    /** Of four monks only draw 0 is lawful. */
    private static final String ONE_LAWFUL =
            "hall 4;skill 0 1 0;skill 0 2 0;skill 0 3 0;skill 1 2 0;skill 1 3 0;skill 2 3 0";
    /** Each of three wants what the next one has by draw 0. */
    private static final String ROUND = "hall 3;like 0 1 6;like 1 2 6;like 2 0 6";
    /** Each of two wants what the other has by draw 0. */
    private static final String PAIR = "hall 2;ring 2;like 0 1 6;like 1 0 6";

    public static void main(String[] args) {
        layNumbers();
        layRowsRise();
        layEachToOne();
        layLawfulByEach();
        layByYesterday();
        layAgain();
        drawSeeds();
        drawMixes();
        drawGoesOnWithX();
        drawFiftyAtMost();
        drawNoneLawful();
        hasWhat();
        hasMonk();
        hasNone();
        tradeOfThree();
        tradeOfTwo();
        tradeLikesMore();
        tradeMay();
        tradeThirdByRing();
        tradeTwoAlike();
        tradeNothingDrawn();
        tradeByNone();
        tradeOfTwoMonks();
        settleNone();
        settleFirst();
        settleTillNone();
        settleLongest();
        settleByNone();
        settleNothingDrawn();
        dawnSixteen();
        dawnYesterday();
        dawnNothingDrawn();
        todayWhat();
        todayNumber();
        todayWorkAndGladness();
        CHECK.end();
    }

    private static void says(String sentence) {
        CHECK.says(sentence);
    }

    private static void due(String call, long got, long want) {
        CHECK.due(call, got, want);
    }

    private static void dueRow(String when, DutiesHat x, int... row) {
        for (int m = 0; m < row.length; m++) {
            due(when + ": has(" + m + ", 0)", x.has(m, 0), row[m]);
        }
    }

    // ---- 8

    private static void layNumbers() {
        says("8: DRAWS are numbered 0 .. n! less 1");
        for (int n = 2; n <= 7; n++) {
            DutiesHat x = Check.told("hall " + n);
            due("of " + n + ": lay(-1)", x.lay(-1), OUTSIDE);
            due("of " + n + ": lay(n!)", x.lay(DRAWS[n]), OUTSIDE);
            due("of " + n + ": lay(least)", x.lay(Integer.MIN_VALUE), OUTSIDE);
            due("of " + n + ": lay(greatest)", x.lay(Integer.MAX_VALUE), OUTSIDE);
            due("of " + n + ": count(4), nothing is drawn", x.count(4), 0);
            due("of " + n + ": lay(0)", x.lay(0), 1);
            for (int m = 0; m < n; m++) {
                due("of " + n + ", draw 0: has(" + m + ", 0)", x.has(m, 0), m);
            }
            due("of " + n + ": lay(n! less 1)", x.lay(DRAWS[n] - 1), 1);
            for (int m = 0; m < n; m++) {
                due("of " + n + ", the last draw: has(" + m + ", 0)", x.has(m, 0), n - 1 - m);
            }
        }
    }

    private static void layRowsRise() {
        says("8: as these rows rise, MONK 0's first");
        for (int n = 2; n <= 7; n++) {
            long ahead = -1;
            DutiesHat x = Check.told("hall " + n);
            for (int number = 0; number < DRAWS[n]; number++) {
                if (number % 60 == 59) {
                    x = Check.told("hall " + n);
                }
                x.lay(number);
                long row = 0;
                for (int m = 0; m < n; m++) {
                    row = 10 * row + x.has(m, 0);
                }
                CHECK.isTrue("of " + n + ": row " + row + " is behind row " + ahead, row > ahead);
                ahead = row;
            }
        }
    }

    private static void layEachToOne() {
        says("8: each MONK one DUTY, each DUTY to one");
        for (int n = 2; n <= 7; n++) {
            DutiesHat x = Check.told("hall " + n);
            for (int number = 0; number < DRAWS[n]; number += DRAWS[n] / 60 + 1) {
                x.lay(number);
                int duties = 0;
                for (int m = 0; m < n; m++) {
                    duties |= 1 << x.has(m, 0);
                }
                due("of " + n + ", draw " + number + ": all duties are had", duties, (1 << n) - 1);
            }
        }
    }

    private static void layLawfulByEach() {
        says("8: LAWFUL if each MAY do what it has; NOT: it is not LAWFUL");
        for (int n = 2; n <= 7; n++) {
            for (int m = 0; m < n; m++) {
                DutiesHat x = Check.told("hall " + n + ";skill " + m + " " + m + " 0");
                due("of " + n + ": lay(0), " + m + " can not do it", x.lay(0), NOT);
                due("of " + n + ": count(4)", x.count(4), 0);
                Check.tell(x, "skill " + m + " " + m + " 1");
                due("of " + n + ": lay(0), " + m + " can do it", x.lay(0), 1);
            }
        }
        DutiesHat x = Check.told(ONE_LAWFUL);
        for (int number = 0; number < 24; number++) {
            due("lay(" + number + ") where only 0 is lawful", x.lay(number), number == 0 ? 1 : NOT);
        }
        due("today(0)", x.today(0), 0);
    }

    private static void layByYesterday() {
        says("8: MAY by what it did YESTERDAY");
        DutiesHat x = Check.told("hall 3;tiring 0;tiring 1;holy 2;did 0 1;did 2 2");
        // MONK 0 not 0 or 1, MONK 2 not 2.
        int[] lawful = {NOT, NOT, NOT, NOT, 1, 1};
        for (int number = 0; number < 6; number++) {
            due("lay(" + number + ")", x.lay(number), lawful[number]);
        }
    }

    private static void layAgain() {
        says("8: TODAY's DRAW is that of a number");
        DutiesHat x = Check.told("hall 3;skill 0 0 0");
        due("lay(5)", x.lay(5), 1);
        due("lay(5) again", x.lay(5), 1);
        due("lay(2) over it", x.lay(2), 1);
        due("today(0)", x.today(0), 2);
        due("lay(0), not lawful", x.lay(0), NOT);
        due("lay(6)", x.lay(6), OUTSIDE);
        due("today(0) is as it was", x.today(0), 2);
        due("count(2): no dawn", x.count(2), 0);
    }

    // ---- 9

    private static void drawSeeds() {
        says("9: a seed z (1 .. 9999)");
        DutiesHat x = new DutiesHat();
        for (int z : new int[] {Integer.MIN_VALUE, -9999, -1, 0, 10000, 10001, 65521, Integer.MAX_VALUE}) {
            due("draw(" + z + ")", x.draw(z), OUTSIDE);
            due("count(4)", x.count(4), 0);
        }
        for (int z : new int[] {1, 2, 9998, 9999}) {
            due("draw(" + z + ")", x.draw(z), 1);
            due("count(4)", x.count(4), 1);
        }
    }

    private static void drawMixes() {
        says("9: for i from n less 1 down to 1 .. places i and x modulo (i and 1) are exchanged");
        int[] seeds = {1, 2, 9998, 9999};
        int[][] numbers = {{}, {}, {0, 1, 1, 0}, {4, 2, 5, 1}, {2, 7, 1, 22}, {3, 62, 5, 8}, {653, 556, 201, 501},
            {947, 3119, 841, 1804}};
        for (int n = 2; n <= 7; n++) {
            DutiesHat x = Check.told("hall " + n);
            for (int i = 0; i < seeds.length; i++) {
                x.draw(seeds[i]);
                due("of " + n + ": today(0) by " + seeds[i], x.today(0), numbers[n][i]);
            }
            // What was drawn ahead does not count: the row begins in its order, x with the seed.
            x.draw(1);
            due("of " + n + ": today(0) by 1 again", x.today(0), numbers[n][0]);
        }
    }

    private static void drawGoesOnWithX() {
        says("9: x is z at first; till one is LAWFUL");
        // By 4 x becomes 1707 (odd: row 0 1), then 56812 (even: row 1 0).
        DutiesHat x = Check.told("hall 2");
        due("draw(4)", x.draw(4), 1);
        dueRow("draw(4)", x, 0, 1);
        Check.tell(x, "skill 0 0 0");
        due("draw(4), the first not being lawful", x.draw(4), 2);
        dueRow("draw(4), the first not being lawful", x, 1, 0);
    }

    private static void drawFiftyAtMost() {
        says("9: 50 DRAWS at most; NOT: none of 50 was LAWFUL");
        for (int z : new int[] {260, 281, 408, 498, 573}) {
            DutiesHat x = Check.told(ONE_LAWFUL);
            due("draw(" + z + "), the 50th is lawful", x.draw(z), 50);
            due("today(0)", x.today(0), 0);
        }
        for (int z : new int[] {62, 439, 527, 932, 953}) {
            DutiesHat x = Check.told(ONE_LAWFUL);
            due("draw(" + z + "), the 51st is lawful", x.draw(z), NOT);
            due("count(4)", x.count(4), 0);
        }
    }

    private static void drawNoneLawful() {
        says("9: nothing changes by a refused draw");
        DutiesHat x = Check.told(ONE_LAWFUL);
        x.lay(0);
        due("draw(62)", x.draw(62), NOT);
        due("draw(0)", x.draw(0), OUTSIDE);
        due("draw(10000)", x.draw(10000), OUTSIDE);
        due("today(0)", x.today(0), 0);
        Check.tell(x, "skill 0 0 0");
        due("lawful()", x.lawful(), 0);
        for (int z = 1; z < 9999; z += 1666) {
            due("draw(" + z + ") where none is lawful", x.draw(z), NOT);
        }
        due("count(4)", x.count(4), 0);
    }

    // ---- 10

    private static void hasWhat() {
        says("10: what a MONK has (what 0), did YESTERDAY (1)");
        DutiesHat x = Check.told("hall 3;did 0 2");
        x.lay(2);
        int[] due = {OUTSIDE, 1, 2, OUTSIDE};
        for (int what = -1; what <= 2; what++) {
            due("has(0, " + what + ")", x.has(0, what), due[what + 1]);
        }
    }

    private static void hasMonk() {
        says("10: UNKNOWN");
        for (int n = 2; n <= 7; n++) {
            DutiesHat x = Check.told("hall " + n);
            x.lay(0);
            x.dawn();
            x.lay(0);
            for (int what = 0; what < 2; what++) {
                due("of " + n + ": has(-1, " + what + ")", x.has(-1, what), UNKNOWN);
                due("of " + n + ": has(0, " + what + ")", x.has(0, what), 0);
                due("of " + n + ": has(n less 1, " + what + ")", x.has(n - 1, what), n - 1);
                due("of " + n + ": has(n, " + what + ")", x.has(n, what), UNKNOWN);
            }
        }
    }

    private static void hasNone() {
        says("10: NONE");
        DutiesHat x = Check.told("hall 2;did 1 0");
        due("has(0, 0), nothing is drawn", x.has(0, 0), NONE);
        due("has(0, 1), nothing was told", x.has(0, 1), NONE);
        due("has(1, 1), told", x.has(1, 1), 0);
        x.lay(0);
        due("has(0, 0), drawn", x.has(0, 0), 0);
        due("has(0, 1), not done yet", x.has(0, 1), NONE);
        x.dawn();
        due("has(0, 0), done", x.has(0, 0), NONE);
        due("has(0, 1), done", x.has(0, 1), 0);
        due("has(1, 1), done", x.has(1, 1), 1);
    }

    // ---- 11

    private static void tradeOfThree() {
        says("11: by RING 3 the first has what b had, b what c had, c what a had");
        int[][] turns = {{0, 1, 2}, {1, 2, 0}, {2, 0, 1}, {0, 2, 1}, {2, 1, 0}, {1, 0, 2}};
        for (int i = 0; i < turns.length; i++) {
            DutiesHat x = Check.told(ROUND);
            x.lay(0);
            int a = turns[i][0];
            int b = turns[i][1];
            int c = turns[i][2];
            due("trade(" + a + ", " + b + ", " + c + ")", x.trade(a, b, c), i < 3 ? 18 : NOT);
            dueRow("behind it", x, i < 3 ? new int[] {1, 2, 0} : new int[] {0, 1, 2});
        }
    }

    private static void tradeOfTwo() {
        says("11: by 2 of two each what the other had");
        int[][] turns = {{0, 1}, {1, 0}};
        for (int[] turn : turns) {
            DutiesHat x = Check.told(PAIR);
            x.lay(0);
            due("trade(" + turn[0] + ", " + turn[1] + ", NONE)", x.trade(turn[0], turn[1], NONE), 12);
            dueRow("behind it", x, 1, 0);
            due("the same again", x.trade(turn[0], turn[1], NONE), NOT);
        }
    }

    private static void tradeLikesMore() {
        says("11: WANTED if each of them LIKES more what it has then");
        for (int had = 0; had <= 9; had++) {
            for (int other = 0; other <= 9; other++) {
                DutiesHat two = Check.told(PAIR + ";like 1 1 " + had + ";like 1 0 " + other);
                two.lay(0);
                due("of two: " + other + " for " + had, two.trade(0, 1, NONE), other > had ? 6 + other : NOT);
                DutiesHat three = Check.told(ROUND + ";like 2 2 " + had + ";like 2 0 " + other);
                three.lay(0);
                due("of three: " + other + " for " + had, three.trade(0, 1, 2), other > had ? 12 + other : NOT);
            }
        }
        for (int spoilt = 0; spoilt < 3; spoilt++) {
            DutiesHat x = Check.told(ROUND + ";like " + spoilt + " " + (spoilt + 1) % 3 + " 5");
            x.lay(0);
            due("of three, " + spoilt + " likes it alike", x.trade(0, 1, 2), NOT);
        }
    }

    private static void tradeMay() {
        says("11: WANTED if each of them MAY do what it has then");
        for (int m = 0; m < 3; m++) {
            int then = (m + 1) % 3;
            String[] spoils = {";skill " + m + " " + then + " 0", ";holy " + then + ";did " + m + " " + then,
                ";tiring " + then + ";did " + m + " " + then};
            String[] fine = {";skill " + m + " " + then + " 1", ";holy " + then + ";did " + m + " " + m,
                ";sweet " + then + ";did " + m + " " + then};
            for (int i = 0; i < spoils.length; i++) {
                DutiesHat x = Check.told(ROUND + spoils[i]);
                due("lay(0)" + spoils[i], x.lay(0), 1);
                due("trade(0, 1, 2)" + spoils[i], x.trade(0, 1, 2), NOT);
                dueRow("refused", x, 0, 1, 2);
                DutiesHat y = Check.told(ROUND + fine[i]);
                due("lay(0)" + fine[i], y.lay(0), 1);
                due("trade(0, 1, 2)" + fine[i], y.trade(0, 1, 2), 18);
            }
        }
    }

    private static void tradeThirdByRing() {
        says("11: c is NONE, if RING is not 3; OUTSIDE: c if RING is not 3; UNKNOWN: c by RING 3");
        for (int c = -3; c <= 4; c++) {
            DutiesHat three = Check.told(ROUND);
            three.lay(0);
            int byThree = c < 0 || c > 2 ? UNKNOWN : c == 2 ? 18 : OUTSIDE;
            due("by 3: trade(0, 1, " + c + ")", three.trade(0, 1, c), byThree);
            DutiesHat two = Check.told("hall 3;ring 2;like 0 1 6;like 1 0 6");
            two.lay(0);
            due("by 2: trade(0, 1, " + c + ")", two.trade(0, 1, c), c == NONE ? 17 : OUTSIDE);
            DutiesHat none = Check.told("hall 3;ring 0;like 0 1 6;like 1 0 6");
            none.lay(0);
            due("by 0: trade(0, 1, " + c + ")", none.trade(0, 1, c), c == NONE ? NOT : OUTSIDE);
        }
    }

    private static void tradeTwoAlike() {
        says("11: OUTSIDE: two alike");
        DutiesHat x = Check.told(ROUND);
        x.lay(0);
        for (int a = 0; a < 3; a++) {
            for (int b = 0; b < 3; b++) {
                for (int c = 0; c < 3; c++) {
                    boolean alike = a == b || b == c || a == c;
                    boolean wanted = b == (a + 1) % 3 && c == (b + 1) % 3;
                    x.lay(0);
                    int due = alike ? OUTSIDE : wanted ? 18 : NOT;
                    due("by 3: trade(" + a + ", " + b + ", " + c + ")", x.trade(a, b, c), due);
                }
            }
        }
        for (int ring : new int[] {0, 2}) {
            Check.tell(x, "ring " + ring);
            x.lay(0);
            for (int a = 0; a < 3; a++) {
                due("by " + ring + ": trade(" + a + ", " + a + ", NONE)", x.trade(a, a, NONE), OUTSIDE);
                due("by " + ring + ": trade(" + a + ", other, NONE)", x.trade(a, (a + 1) % 3, NONE), NOT);
            }
        }
    }

    private static void tradeNothingDrawn() {
        says("11: NOT: nothing is drawn");
        DutiesHat three = Check.told(ROUND);
        due("by 3: trade(0, 1, 2)", three.trade(0, 1, 2), NOT);
        three.lay(0);
        due("by 3, drawn: trade(0, 1, 2)", three.trade(0, 1, 2), 18);
        three.dawn();
        due("by 3, done: trade(0, 1, 2)", three.trade(0, 1, 2), NOT);
        DutiesHat two = Check.told(PAIR);
        due("by 2: trade(0, 1, NONE)", two.trade(0, 1, NONE), NOT);
        two.lay(0);
        due("by 2, drawn: trade(0, 1, NONE)", two.trade(0, 1, NONE), 12);
    }

    private static void tradeByNone() {
        says("11: NOT: RING is 0");
        DutiesHat x = Check.told(PAIR + ";ring 0");
        x.lay(0);
        due("trade(0, 1, NONE)", x.trade(0, 1, NONE), NOT);
        due("today(0)", x.today(0), 0);
        Check.tell(x, "ring 2");
        x.lay(0);
        due("by 2: trade(0, 1, NONE)", x.trade(0, 1, NONE), 12);
    }

    private static void tradeOfTwoMonks() {
        says("11: of three MONKS, where there are but two");
        DutiesHat x = Check.told(PAIR + ";ring 3");
        x.lay(0);
        due("trade(0, 1, 2)", x.trade(0, 1, 2), UNKNOWN);
        due("trade(0, 1, NONE)", x.trade(0, 1, NONE), UNKNOWN);
        due("trade(0, 1, 0)", x.trade(0, 1, 0), OUTSIDE);
        due("trade(0, 1, 1)", x.trade(0, 1, 1), OUTSIDE);
        due("settle()", x.settle(), 0);
    }

    // ---- 12

    private static void settleNone() {
        says("12: how many TRADES, where none is WANTED");
        DutiesHat x = new DutiesHat();
        x.lay(7);
        due("settle()", x.settle(), 0);
        due("today(0)", x.today(0), 7);
        // A pair alone is no ring of three, a ring of three no pair.
        Check.tell(x, "hall 3;like 0 1 6;like 1 0 6");
        x.lay(0);
        due("settle() by 3 of a pair", x.settle(), 0);
        Check.tell(x, "ring 2");
        x.lay(0);
        due("settle() by 2 of a pair", x.settle(), 1);
        Check.tell(x, ROUND + ";ring 2");
        x.lay(0);
        due("settle() by 2 of a round", x.settle(), 0);
        Check.tell(x, "ring 3");
        x.lay(0);
        due("settle() by 3 of a round", x.settle(), 1);
    }

    private static void settleFirst() {
        says("12: the first WANTED one (by a, then b, then c, a being the least of them)");
        // By a: 0 and 3 ahead of 1 and 2; both are made, as they do not touch.
        DutiesHat x = Check.told("hall 4;ring 2;like 1 2 6;like 2 1 6;like 0 3 6;like 3 0 6");
        x.lay(0);
        due("two pairs apart", x.settle(), 2);
        dueRow("two pairs apart", x, 3, 2, 1, 0);
        // By a: 0 and 2 is made, 1 and 2 is not.
        Check.tell(x, "hall 3;ring 2;like 0 2 6;like 2 0 6;like 1 2 6;like 2 1 6");
        x.lay(0);
        due("0 with 2, 1 with 2", x.settle(), 1);
        dueRow("0 with 2, 1 with 2", x, 2, 1, 0);
        // By b: 0 and 1 is made, 0 and 2 is not.
        Check.tell(x, "hall 3;ring 2;like 0 1 6;like 0 2 6;like 1 0 6;like 2 0 6");
        x.lay(0);
        due("0 with 1, 0 with 2", x.settle(), 1);
        dueRow("0 with 1, 0 with 2", x, 1, 0, 2);
        // By b: (0, 1, 3) is made, (0, 2, 1) is not.
        Check.tell(x, "hall 4;like 0 1 6;like 1 3 6;like 3 0 6;like 0 2 6;like 2 1 6;like 1 0 6");
        x.lay(0);
        due("(0, 1, 3), (0, 2, 1)", x.settle(), 1);
        dueRow("(0, 1, 3), (0, 2, 1)", x, 1, 3, 2, 0);
        // By c: (0, 2, 1) is made, (0, 2, 3) is not.
        Check.tell(x, "hall 4;like 0 2 6;like 2 1 6;like 2 3 6;like 1 0 6;like 3 0 6");
        x.lay(0);
        due("(0, 2, 1), (0, 2, 3)", x.settle(), 1);
        dueRow("(0, 2, 1), (0, 2, 3)", x, 2, 0, 1, 3);
        // a is the least: (0, 3, 1) is named by 0, so it comes ahead of (1, 2, 3), though 1 wants 0's and 2's alike.
        Check.tell(x, "hall 4;like 0 3 6;like 3 1 6;like 1 0 6;like 1 2 6;like 2 3 6");
        x.lay(0);
        due("(0, 3, 1), (1, 2, 3)", x.settle(), 1);
        dueRow("(0, 3, 1), (1, 2, 3)", x, 3, 0, 2, 1);
    }

    private static void settleTillNone() {
        says("12: is made, again and again, till there is none");
        // 0 goes up by one each time: with 1, then with 2, 3, 4, 5, 6.
        DutiesHat x = Check.told("hall 7;ring 2;like 0 0 0;like 0 1 1;like 0 2 2;like 0 3 3;like 0 4 4;like 0 5 5;"
                + "like 0 6 6;like 1 0 9;like 2 1 9;like 3 2 9;like 4 3 9;like 5 4 9");
        Check.tell(x, "like 6 5 9");
        x.lay(0);
        due("settle()", x.settle(), 6);
        dueRow("settle()", x, 6, 0, 1, 2, 3, 4, 5);
        due("settle() again", x.settle(), 0);
        due("ends(0)", x.ends(0), 1);
        due("hint(0)", x.hint(0), NONE);
        due("trade(0, 1, NONE)", x.trade(0, 1, NONE), NOT);
    }

    private static void settleLongest() {
        says("12: again and again: by many trades");
        DutiesHat x = Check.tellLikings(Check.told("hall 7;ring 2"), new int[][] {{0, 1, 4, 5, 7, 9, 1},
            {4, 1, 4, 5, 6, 2, 8}, {1, 3, 1, 6, 1, 6, 8}, {5, 6, 3, 1, 9, 5, 8}, {5, 9, 7, 2, 0, 7, 9},
            {7, 6, 8, 4, 3, 0, 6}, {6, 4, 5, 2, 1, 4, 3}});
        x.lay(0);
        due("settle() by 2", x.settle(), 14);
        dueRow("settle() by 2", x, 5, 6, 3, 4, 1, 2, 0);
        x = Check.tellLikings(Check.told("hall 7;ring 3"), new int[][] {{0, 2, 3, 4, 7, 8, 9}, {5, 1, 4, 7, 8, 9, 2},
            {4, 5, 2, 8, 3, 6, 8}, {5, 3, 9, 2, 4, 5, 7}, {9, 9, 5, 0, 1, 7, 4}, {4, 8, 5, 4, 9, 5, 6},
            {9, 6, 8, 9, 4, 5, 3}});
        x.lay(0);
        due("settle() by 3", x.settle(), 9);
        dueRow("settle() by 3", x, 6, 5, 3, 2, 1, 4, 0);
    }

    private static void settleByNone() {
        says("12: (By RING 0 there is none.)");
        DutiesHat x = Check.told(PAIR + ";ring 0");
        x.lay(0);
        due("settle() by 0", x.settle(), 0);
        due("today(0)", x.today(0), 0);
        Check.tell(x, "ring 2");
        x.lay(0);
        due("settle() by 2", x.settle(), 1);
    }

    private static void settleNothingDrawn() {
        says("12: NOT: nothing is drawn");
        DutiesHat x = Check.told(PAIR);
        due("settle() at first", x.settle(), NOT);
        x.lay(0);
        due("settle(), drawn", x.settle(), 1);
        x.dawn();
        due("settle(), done", x.settle(), NOT);
        due("has(0, 1)", x.has(0, 1), 1);
        Check.tell(x, "ring 0");
        due("settle() by 0, nothing drawn", x.settle(), NOT);
    }

    // ---- 13

    private static void dawnSixteen() {
        says("13: THE BOOK (16 DAWNS at most); FULL");
        for (int n = 2; n <= 7; n++) {
            DutiesHat x = Check.told("hall " + n);
            for (int d = 1; d <= 16; d++) {
                x.lay(0);
                due("of " + n + ": dawn() " + d, x.dawn(), d);
            }
            due("of " + n + ": dawn() 17, nothing drawn", x.dawn(), NOT);
            x.lay(1);
            due("of " + n + ": dawn() 17", x.dawn(), FULL);
            due("of " + n + ": count(2)", x.count(2), 16);
            due("of " + n + ": today(0)", x.today(0), 1);
            due("of " + n + ": has(n less 1, 1)", x.has(n - 1, 1), n - 1);
            due("of " + n + ": often(n less 1, n less 1)", x.often(n - 1, n - 1), 16);
            due("of " + n + ": often(n less 1, n less 2)", x.often(n - 1, n - 2), 0);
            due("of " + n + ": dawn() 17 again", x.dawn(), FULL);
        }
    }

    private static void dawnYesterday() {
        says("13: what all have is done: it is YESTERDAY then, stands in THE BOOK, nothing is drawn");
        DutiesHat x = Check.told("hall 3;holy 0;did 0 2;did 1 2;did 2 2");
        x.lay(3);
        due("dawn()", x.dawn(), 1);
        int[] row = {1, 2, 0};
        for (int m = 0; m < 3; m++) {
            due("has(" + m + ", 1)", x.has(m, 1), row[m]);
            due("has(" + m + ", 0)", x.has(m, 0), NONE);
            due("often(" + m + ", its duty)", x.often(m, row[m]), 1);
        }
        due("count(4)", x.count(4), 0);
        due("monk(2, 0, 2) behind it", x.monk(2, 0, 2), 0);
        due("monk(0, 0, 2) behind it", x.monk(0, 0, 2), 1);
        due("lay(3), not lawful now", x.lay(3), NOT);
        // What is done is what all have behind the trades.
        Check.tell(x, PAIR);
        x.lay(0);
        x.settle();
        x.dawn();
        due("has(0, 1) behind a trade", x.has(0, 1), 1);
        due("often(0, 1) behind a trade", x.often(0, 1), 1);
        due("often(0, 0) behind a trade", x.often(0, 0), 0);
    }

    private static void dawnNothingDrawn() {
        says("13: NOT: nothing is drawn");
        DutiesHat x = new DutiesHat();
        due("dawn() at first", x.dawn(), NOT);
        due("count(2)", x.count(2), 0);
        x.lay(0);
        due("dawn()", x.dawn(), 1);
        due("dawn() again", x.dawn(), NOT);
        due("count(2)", x.count(2), 1);
        due("has(1, 1)", x.has(1, 1), 1);
    }

    // ---- 14

    private static void todayWhat() {
        says("14: what 0, 1, 2; OUTSIDE; NOT: nothing is drawn");
        DutiesHat x = Check.told("hall 2;skill 0 1 9;like 0 1 0");
        int[] drawn = {OUTSIDE, 1, 14, 5, OUTSIDE};
        for (int what = -1; what <= 3; what++) {
            due("today(" + what + "), nothing drawn", x.today(what), what < 0 || what > 2 ? OUTSIDE : NOT);
        }
        x.lay(1);
        for (int what = -1; what <= 3; what++) {
            due("today(" + what + ")", x.today(what), drawn[what + 1]);
        }
        x.dawn();
        due("today(0), done", x.today(0), NOT);
    }

    private static void todayNumber() {
        says("14: its number");
        for (int n = 2; n <= 7; n++) {
            DutiesHat x = Check.told("hall " + n);
            for (int number = 0; number < DRAWS[n]; number++) {
                if (number % 200 == 199) {
                    x = Check.told("hall " + n);
                }
                x.lay(number);
                due("of " + n + ": today(0)", x.today(0), number);
            }
        }
        DutiesHat x = Check.told(ROUND);
        x.lay(0);
        x.trade(0, 1, 2);
        due("today(0) behind a trade", x.today(0), 3);
    }

    private static void todayWorkAndGladness() {
        says("14: WORK, GLADNESS: of all together");
        // Least: LIKING 0 and SKILL 1 of all; greatest: 9 of all.
        for (int n = 2; n <= 7; n++) {
            StringBuilder least = new StringBuilder("hall " + n);
            StringBuilder greatest = new StringBuilder("hall " + n);
            for (int m = 0; m < n; m++) {
                least.append(";skill ").append(m).append(' ').append(m).append(" 1");
                greatest.append(";skill ").append(m).append(' ').append(m).append(" 9");
            }
            DutiesHat x = Check.told(least.toString());
            tellLikings(x, n, 0);
            x.lay(0);
            due("of " + n + ": the least work", x.today(1), n);
            due("of " + n + ": the least gladness", x.today(2), 0);
            Check.tell(x, greatest.toString());
            tellLikings(x, n, 9);
            x.lay(0);
            due("of " + n + ": the greatest work", x.today(1), 9 * n);
            due("of " + n + ": the greatest gladness", x.today(2), 9 * n);
            x.lay(1);
            due("of " + n + ": work of draw 1", x.today(1), 9 * n - 8);
        }
    }

    private static void tellLikings(DutiesHat x, int n, int liking) {
        StringBuilder text = new StringBuilder("ring 3");
        for (int m = 0; m < n; m++) {
            text.append(";like ").append(m).append(' ').append(m).append(' ').append(liking);
        }
        Check.tell(x, text.toString());
    }
}
