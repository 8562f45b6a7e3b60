/** Promises 21 to 26 at their edges: a method for each sentence that names one, on both sides of it. */
public final class BookEdgesTest {
    private static final int NONE = -1, UNKNOWN = -2, OUTSIDE = -3, NOT = -4, FULL = -5;
    private static final Check CHECK = new Check();

    public static void main(String[] args) {
        oftenMonkAndDuty();
        oftenEmptyToFull();
        oftenOfDawnsAlone();
        tailMonkAndDuty();
        tailPart();
        tailOfAnEmptyBook();
        tailOfNoneToAll();
        tailOfAFullBook();
        tailLowestTerms();
        namedThousandths();
        namedLessThan();
        namedByNoDoubt();
        namedOfAnEmptyBook();
        namedOfAFullBook();
        namedFirst();
        namedMonkAndDuty();
        keepOneOrOther();
        keepHowMany();
        keepAnew();
        keepTodayYesterdayBook();
        backNothingKept();
        backSinceTheLastText();
        backAsTheyWere();
        backBook();
        backAgain();
        backFromFull();
        backTouchesNothingElse();
        countWhat();
        countOfEach();
        CHECK.end();
    }

    private static void says(String sentence) {
        CHECK.says(sentence);
    }

    private static void due(String call, long got, long want) {
        CHECK.due(call, got, want);
    }

    private static void dawns(DutiesHat x, int number, int times) {
        for (int i = 0; i < times; i++) {
            x.lay(number);
            x.dawn();
        }
    }

    /** The number of a row: the rows that are ahead of it, counted place by place. */
    private static int numberOf(int... row) {
        int number = 0;
        for (int i = 0; i < row.length; i++) {
            int lesser = 0;
            for (int j = i + 1; j < row.length; j++) {
                lesser += row[j] < row[i] ? 1 : 0;
            }
            number = number * (row.length - i) + lesser;
        }
        return number;
    }

    // ---- 21

    private static void oftenMonkAndDuty() {
        says("21: UNKNOWN");
        for (int n = 2; n <= 7; n++) {
            DutiesHat x = Check.told("hall " + n);
            dawns(x, 0, 1);
            due("of " + n + ": often(-1, 0)", x.often(-1, 0), UNKNOWN);
            due("of " + n + ": often(0, -1)", x.often(0, -1), UNKNOWN);
            due("of " + n + ": often(n, 0)", x.often(n, 0), UNKNOWN);
            due("of " + n + ": often(0, n)", x.often(0, n), UNKNOWN);
            due("of " + n + ": often(0, 0)", x.often(0, 0), 1);
            due("of " + n + ": often(n less 1, n less 1)", x.often(n - 1, n - 1), 1);
            due("of " + n + ": often(n less 1, 0)", x.often(n - 1, 0), 0);
        }
    }

    private static void oftenEmptyToFull() {
        says("21: k of its d DAWNS, from none to all of 16");
        DutiesHat x = Check.told("hall 2");
        due("often(0, 0) of none", x.often(0, 0), 0);
        for (int d = 1; d <= 16; d++) {
            dawns(x, 0, 1);
            due("often(0, 0) of " + d, x.often(0, 0), d);
            due("often(1, 1) of " + d, x.often(1, 1), d);
            due("often(0, 1) of " + d, x.often(0, 1), 0);
        }
        dawns(x, 0, 1);
        due("often(0, 0), the 17th is refused", x.often(0, 0), 16);
    }

    private static void oftenOfDawnsAlone() {
        says("21: THE BOOK: TODAY and what was told of YESTERDAY are not in it");
        DutiesHat x = Check.told("hall 2;did 0 0;did 1 1");
        due("often(0, 0), told", x.often(0, 0), 0);
        x.lay(0);
        due("often(0, 0), drawn", x.often(0, 0), 0);
        x.dawn();
        due("often(0, 0), done", x.often(0, 0), 1);
        Check.tell(x, "ring 2");
        due("often(0, 0) behind a text", x.often(0, 0), 0);
    }

    // ---- 22

    private static void dueTail(String of, DutiesHat x, int monk, int duty, long above, long below) {
        due(of + ": tail(" + monk + ", " + duty + ", 0)", x.tail(monk, duty, 0), above);
        due(of + ": tail(" + monk + ", " + duty + ", 1)", x.tail(monk, duty, 1), below);
    }

    private static void tailMonkAndDuty() {
        says("22: UNKNOWN");
        for (int n = 2; n <= 7; n++) {
            DutiesHat x = Check.told("hall " + n);
            dawns(x, 0, 1);
            due("of " + n + ": tail(-1, 0, 1)", x.tail(-1, 0, 1), UNKNOWN);
            due("of " + n + ": tail(0, -1, 1)", x.tail(0, -1, 1), UNKNOWN);
            due("of " + n + ": tail(n, 0, 1)", x.tail(n, 0, 1), UNKNOWN);
            due("of " + n + ": tail(0, n, 1)", x.tail(0, n, 1), UNKNOWN);
            due("of " + n + ": tail(0, 0, 1)", x.tail(0, 0, 1), n);
            due("of " + n + ": tail(n less 1, n less 1, 1)", x.tail(n - 1, n - 1, 1), n);
            due("of " + n + ": tail(n less 1, 0, 1)", x.tail(n - 1, 0, 1), 1);
        }
    }

    private static void tailPart() {
        says("22: above (part 0), below (1); OUTSIDE");
        DutiesHat x = Check.told("hall 3");
        dawns(x, 0, 1);
        long[] due = {OUTSIDE, 1, 3, OUTSIDE};
        for (int part = -1; part <= 2; part++) {
            due("tail(0, 0, " + part + ")", x.tail(0, 0, part), due[part + 1]);
        }
        due("tail(0, 0, least)", x.tail(0, 0, Integer.MIN_VALUE), OUTSIDE);
        due("tail(0, 0, greatest)", x.tail(0, 0, Integer.MAX_VALUE), OUTSIDE);
    }

    private static void tailOfAnEmptyBook() {
        says("22: k times or more in d, where THE BOOK is empty");
        for (int n = 2; n <= 7; n++) {
            DutiesHat x = Check.told("hall " + n);
            dueTail("of " + n, x, 0, 0, 1, 1);
            dueTail("of " + n, x, n - 1, 0, 1, 1);
        }
    }

    private static void tailOfNoneToAll() {
        says("22: the odds that one whose lot is 1 of n each time has it k times or more in d");
        // Of three in two dawns: 1, 5 / 9, 1 / 9.
        DutiesHat x = Check.told("hall 3");
        dawns(x, numberOf(0, 1, 2), 1);
        dawns(x, numberOf(0, 2, 1), 1);
        dueTail("none of two", x, 0, 1, 1, 1);
        dueTail("one of two", x, 1, 1, 5, 9);
        dueTail("two of two", x, 0, 0, 1, 9);
        // Of two in two dawns: 1, 3 / 4, 1 / 4.
        Check.tell(x, "hall 2");
        dawns(x, 0, 2);
        dueTail("all of two, of two", x, 0, 0, 1, 4);
        dueTail("none of two, of two", x, 0, 1, 1, 1);
        Check.tell(x, "hall 2");
        dawns(x, 0, 1);
        dawns(x, 1, 1);
        dueTail("one of two, of two", x, 0, 0, 3, 4);
    }

    private static void tailOfAFullBook() {
        says("22: TAIL, where THE BOOK is full");
        long[][] ofTwo = {{1, 1}, {65535, 65536}, {65519, 65536}, {65399, 65536}, {64839, 65536}, {63019, 65536},
            {58651, 65536}, {50643, 65536}, {39203, 65536}, {26333, 65536}, {14893, 65536}, {6885, 65536},
            {2517, 65536}, {697, 65536}, {137, 65536}, {17, 65536}, {1, 65536}};
        long[][] ofSeven = {{1, 1}, {30411820662145L, 33232930569601L}, {22888860908929L, 33232930569601L},
            {1926451602487L, 4747561509943L}, {881596081207L, 4747561509943L}, {315632673847L, 4747561509943L},
            {89247310903L, 4747561509943L}, {20074005559L, 4747561509943L}, {25229196673L, 33232930569601L},
            {3612538753L, 33232930569601L}, {58581559, 4747561509943L}, {5207095, 4747561509943L},
            {354871, 4747561509943L}, {17911, 4747561509943L}, {631, 4747561509943L}, {97, 33232930569601L},
            {1, 33232930569601L}};
        for (int k = 0; k <= 16; k++) {
            DutiesHat two = Check.told("hall 2");
            dawns(two, 0, k);
            dawns(two, 1, 16 - k);
            dueTail("of two, " + k + " of 16", two, 0, 0, ofTwo[k][0], ofTwo[k][1]);
            DutiesHat seven = Check.told("hall 7");
            dawns(seven, 0, k);
            dawns(seven, 5039, 16 - k);
            dueTail("of seven, " + k + " of 16", seven, 6, 6, ofSeven[k][0], ofSeven[k][1]);
            dueTail("of seven, the others", seven, 6, 0, ofSeven[16 - k][0], ofSeven[16 - k][1]);
        }
    }

    private static void tailLowestTerms() {
        says("22: parts are told in lowest terms");
        // Of two: 8 or more of 15 is 1 / 2, 14 or more 1 / 2048; 15 of 15 is not to be made less.
        long[][] due = {{8, 1, 2}, {14, 1, 2048}, {15, 1, 32768}, {12, 9, 512}, {1, 32767, 32768}, {0, 1, 1}};
        for (long[] row : due) {
            DutiesHat x = Check.told("hall 2");
            dawns(x, 0, (int) row[0]);
            dawns(x, 1, 15 - (int) row[0]);
            dueTail(row[0] + " of 15", x, 0, 0, row[1], row[2]);
        }
    }

    // ---- 23

    private static void namedThousandths() {
        says("23: q thousandths (0 .. 1000); OUTSIDE");
        DutiesHat x = Check.told("hall 2");
        for (int round = 0; round < 2; round++) {
            due("named(-1)", x.named(-1), OUTSIDE);
            due("named(1001)", x.named(1001), OUTSIDE);
            due("named(least)", x.named(Integer.MIN_VALUE), OUTSIDE);
            due("named(greatest)", x.named(Integer.MAX_VALUE), OUTSIDE);
            due("named(0)", x.named(0), NONE);
            due("named(1000)", x.named(1000), round == 0 ? NONE : 0);
            dawns(x, 0, 1);
        }
    }

    private static void namedLessThan() {
        says("23: 1000 times TAIL is less than q");
        // 1 / 2, 1 / 4, 1 / 8 of two; 1 / 5, 1 / 25, 1 / 125 of five: just as many thousandths are not less.
        int[][] rows = {{2, 1, 500}, {2, 2, 250}, {2, 3, 125}, {5, 1, 200}, {5, 2, 40}, {5, 3, 8}, {4, 1, 250}};
        for (int[] row : rows) {
            DutiesHat x = Check.told("hall " + row[0]);
            dawns(x, 0, row[1]);
            String of = "of " + row[0] + ", " + row[1] + " dawns: ";
            due(of + "named(" + (row[2] - 1) + ")", x.named(row[2] - 1), NONE);
            due(of + "named(" + row[2] + ")", x.named(row[2]), NONE);
            due(of + "named(" + (row[2] + 1) + ")", x.named(row[2] + 1), 0);
        }
        // Between two thousandths: 333.3, 62.5, 2.9.
        int[][] between = {{3, 1, 333}, {2, 4, 62}, {7, 3, 2}, {7, 1, 142}, {6, 1, 166}};
        for (int[] row : between) {
            DutiesHat x = Check.told("hall " + row[0]);
            dawns(x, 0, row[1]);
            String of = "of " + row[0] + ", " + row[1] + " dawns: ";
            due(of + "named(" + row[2] + ")", x.named(row[2]), NONE);
            due(of + "named(" + (row[2] + 1) + ")", x.named(row[2] + 1), 0);
        }
    }

    private static void namedByNoDoubt() {
        says("23: past a doubt of q, where q is 0, 1, 1000");
        DutiesHat x = Check.told("hall 2");
        dawns(x, 0, 9);
        due("named(1) by 1 / 512", x.named(1), NONE);
        due("named(2) by 1 / 512", x.named(2), 0);
        dawns(x, 0, 1);
        due("named(1) by 1 / 1024", x.named(1), 0);
        due("named(0) by 1 / 1024", x.named(0), NONE);
        dawns(x, 0, 6);
        due("named(0) by 1 / 65536", x.named(0), NONE);
        // By 1000 all that was had is named, what was not had is not: TAIL is 1 then.
        Check.tell(x, "hall 3");
        dawns(x, numberOf(2, 0, 1), 1);
        due("named(1000), 0 had 2", x.named(1000), 2);
    }

    private static void namedOfAnEmptyBook() {
        says("23: NONE, where THE BOOK is empty");
        for (int n = 2; n <= 7; n++) {
            DutiesHat x = Check.told("hall " + n);
            for (int q : new int[] {0, 1, 500, 999, 1000}) {
                due("of " + n + ": named(" + q + ")", x.named(q), NONE);
            }
        }
    }

    private static void namedOfAFullBook() {
        says("23: NAMED, where THE BOOK is full");
        for (int n = 2; n <= 7; n++) {
            DutiesHat x = Check.told("hall " + n);
            dawns(x, 0, 16);
            due("of " + n + ": named(0)", x.named(0), NONE);
            due("of " + n + ": named(1)", x.named(1), 0);
            due("of " + n + ": named(1000)", x.named(1000), 0);
        }
    }

    private static void namedFirst() {
        says("23: the first MONK, then DUTY, that is");
        // Of three, rows 1 0 2, 1 2 0, 0 1 2: 0 had 1 twice, 0 once; 2 had 2 twice.
        DutiesHat x = Check.told("hall 3");
        dawns(x, numberOf(1, 0, 2), 1);
        dawns(x, numberOf(1, 2, 0), 1);
        dawns(x, numberOf(0, 1, 2), 1);
        // Twice of three: 7 / 27, once 19 / 27.
        due("named(704): 0 had 0 once", x.named(704), 0);
        due("named(703): 0 had 1 twice", x.named(703), 1);
        due("named(260): 0 had 1 twice", x.named(260), 1);
        due("named(259)", x.named(259), NONE);
        // Rows 0 2 1, 1 2 0: 1 had 2 twice, which is ahead of 2 by its MONK.
        Check.tell(x, "hall 3");
        dawns(x, numberOf(0, 2, 1), 1);
        dawns(x, numberOf(1, 2, 0), 1);
        due("named(112): 1 had 2 twice", x.named(112), 12);
        due("named(1000): 0 had 0 once", x.named(1000), 0);
    }

    private static void namedMonkAndDuty() {
        says("23: 10 times the MONK, and the DUTY");
        // MONK 6 always has 6, the others go round: each has each of 0 .. 5 once in six dawns.
        DutiesHat x = Check.told("hall 7");
        for (int turn = 0; turn < 6; turn++) {
            int[] row = {turn, (1 + turn) % 6, (2 + turn) % 6, (3 + turn) % 6, (4 + turn) % 6, (5 + turn) % 6, 6};
            dawns(x, numberOf(row), 1);
        }
        due("named(1)", x.named(1), 66);
        // Once or more of six: 1 less (6 / 7) to the sixth, 603.4 thousandths.
        due("named(603)", x.named(603), 66);
        due("named(604)", x.named(604), 0);
        for (int m = 0; m < 4; m++) {
            for (int d = 0; d < 4; d++) {
                DutiesHat y = Check.told("hall 4");
                alwaysAt(y, m, d);
                due("named(32), " + m + " had " + d + " always", y.named(32), 10 * m + d);
            }
        }
    }

    /** Three dawns in which one of four monks always has one duty, and the others go round. */
    private static void alwaysAt(DutiesHat x, int monk, int duty) {
        for (int turn = 0; turn < 3; turn++) {
            int[] row = new int[4];
            int at = 0;
            for (int m = 0; m < 4; m++) {
                if (m == monk) {
                    row[m] = duty;
                } else {
                    int other = (at + turn) % 3;
                    row[m] = other < duty ? other : other + 1;
                    at++;
                }
            }
            dawns(x, numberOf(row), 1);
        }
    }

    // ---- 24

    private static void keepOneOrOther() {
        says("24: k 0, 1; UNKNOWN: no such k");
        DutiesHat x = new DutiesHat();
        for (int k = -2; k <= 3; k++) {
            due("keep(" + k + ")", x.keep(k), k < 0 || k > 1 ? UNKNOWN : 0);
            due("back(" + k + ")", x.back(k), k < 0 || k > 1 ? UNKNOWN : 0);
        }
        due("keep(least)", x.keep(Integer.MIN_VALUE), UNKNOWN);
        due("keep(greatest)", x.keep(Integer.MAX_VALUE), UNKNOWN);
    }

    private static void keepHowMany() {
        says("24: how many DAWNS, from none to 16");
        DutiesHat x = Check.told("hall 2");
        for (int d = 0; d <= 16; d++) {
            due("keep(0) of " + d, x.keep(0), d);
            due("back(0) of " + d, x.back(0), d);
            dawns(x, 0, 1);
        }
    }

    private static void keepAnew() {
        says("24: kept again, the earlier image is gone, the other one is not");
        DutiesHat x = Check.told("hall 2");
        x.keep(0);
        x.keep(1);
        dawns(x, 0, 1);
        due("keep(0) anew", x.keep(0), 1);
        dawns(x, 0, 1);
        due("back(0)", x.back(0), 1);
        due("back(1)", x.back(1), 0);
        due("back(0) again", x.back(0), 1);
        due("keep(1) anew", x.keep(1), 1);
        due("back(1) again", x.back(1), 1);
    }

    private static void keepTodayYesterdayBook() {
        says("24: keep() itself changes nothing");
        DutiesHat x = Check.told("hall 3;did 0 2");
        x.lay(3);
        x.keep(0);
        due("today(0)", x.today(0), 3);
        due("has(0, 1)", x.has(0, 1), 2);
        due("count(2)", x.count(2), 0);
        x.dawn();
        x.keep(1);
        due("count(4)", x.count(4), 0);
        due("has(0, 1), done", x.has(0, 1), 1);
        due("count(2), done", x.count(2), 1);
    }

    // ---- 25

    private static void backNothingKept() {
        says("25: NOT: nothing was kept");
        DutiesHat x = new DutiesHat();
        due("back(0)", x.back(0), NOT);
        due("back(1)", x.back(1), NOT);
        due("back(-1)", x.back(-1), UNKNOWN);
        due("back(2)", x.back(2), UNKNOWN);
        x.keep(0);
        due("back(0), kept", x.back(0), 0);
        due("back(1), the other is kept", x.back(1), NOT);
        DutiesHat y = new DutiesHat();
        y.keep(1);
        due("back(1), kept", y.back(1), 0);
        due("back(0), the other is kept", y.back(0), NOT);
        y.keep(2);
        due("back(0), a refused keep", y.back(0), NOT);
    }

    private static void backSinceTheLastText() {
        says("25: since the last text");
        DutiesHat x = new DutiesHat();
        x.keep(0);
        x.keep(1);
        Check.write(x, "ring 2");
        due("back(0), a text is written", x.back(0), 0);
        x.fault();
        due("back(0), its fault was asked for", x.back(0), 0);
        x.erase();
        due("back(0), it is erased", x.back(0), 0);
        Check.write(x, "ring 1");
        x.hall();
        due("back(0), it was refused", x.back(0), 0);
        due("back(1), it was refused", x.back(1), 0);
        Check.tell(x, "ring 2");
        due("back(0), a text is done", x.back(0), NOT);
        due("back(1), a text is done", x.back(1), NOT);
        x.keep(1);
        due("back(1), kept since", x.back(1), 0);
        due("back(0), not kept since", x.back(0), NOT);
    }

    private static void backAsTheyWere() {
        says("25: they are as they were kept: how many DAWNS");
        DutiesHat x = Check.told("hall 3;holy 0;did 0 2");
        x.keep(0);
        x.lay(1);
        x.dawn();
        x.lay(2);
        x.keep(1);
        x.dawn();
        x.lay(4);
        due("back(1)", x.back(1), 1);
        due("today(0)", x.today(0), 2);
        due("has(0, 1)", x.has(0, 1), 0);
        due("has(1, 1)", x.has(1, 1), 2);
        due("often(0, 0)", x.often(0, 0), 1);
        due("often(0, 1)", x.often(0, 1), 0);
        due("monk(0, 0, 2)", x.monk(0, 0, 2), 0);
        due("lawful()", x.lawful(), 4);
        due("back(0)", x.back(0), 0);
        due("today(0), nothing drawn", x.today(0), NOT);
        due("count(4), nothing drawn", x.count(4), 0);
        due("has(0, 1) as told", x.has(0, 1), 2);
        due("has(1, 1), nothing", x.has(1, 1), NONE);
        due("often(0, 0), empty", x.often(0, 0), 0);
        due("monk(0, 0, 2)", x.monk(0, 0, 2), 1);
        due("lawful()", x.lawful(), 6);
    }

    private static void backBook() {
        says("25: THE BOOK is as it was kept, dawn by dawn");
        DutiesHat x = Check.told("hall 2");
        dawns(x, 0, 3);
        x.keep(0);
        DutiesHat y = Check.told("hall 2");
        y.keep(0);
        dawns(y, 0, 2);
        y.keep(1);
        y.back(0);
        dawns(y, 1, 2);
        due("often(0, 1), another book", y.often(0, 1), 2);
        due("back(1)", y.back(1), 2);
        due("often(0, 0)", y.often(0, 0), 2);
        due("often(0, 1)", y.often(0, 1), 0);
        due("tail(0, 0, 1)", y.tail(0, 0, 1), 4);
        due("named(251)", y.named(251), 0);
        dawns(x, 1, 13);
        due("often(0, 1), full", x.often(0, 1), 13);
        due("back(0)", x.back(0), 3);
        due("often(0, 1), back", x.often(0, 1), 0);
        dawns(x, 0, 13);
        due("often(0, 0), full anew", x.often(0, 0), 16);
    }

    private static void backAgain() {
        says("25: what comes behind does not touch the image");
        DutiesHat x = Check.told("hall 2;ring 2;like 0 1 6;like 1 0 6");
        x.lay(0);
        x.keep(0);
        for (int round = 0; round < 3; round++) {
            due("back(0)", x.back(0), 0);
            due("today(0)", x.today(0), 0);
            due("settle()", x.settle(), 1);
            due("dawn()", x.dawn(), 1);
            x.lay(1);
            x.keep(1);
        }
        due("back(1)", x.back(1), 1);
        due("today(0)", x.today(0), 1);
    }

    private static void backFromFull() {
        says("25: THE BOOK back from full, and full again");
        DutiesHat x = Check.told("hall 2");
        dawns(x, 0, 15);
        x.lay(1);
        x.keep(0);
        due("dawn() 16", x.dawn(), 16);
        x.lay(0);
        x.keep(1);
        due("dawn() 17", x.dawn(), FULL);
        due("back(0)", x.back(0), 15);
        due("dawn() 16 again", x.dawn(), 16);
        due("often(0, 1)", x.often(0, 1), 1);
        due("back(1)", x.back(1), 16);
        due("dawn() 17 again", x.dawn(), FULL);
        due("often(0, 1)", x.often(0, 1), 1);
        due("often(0, 0)", x.often(0, 0), 15);
    }

    private static void backTouchesNothingElse() {
        says("25: TODAY, YESTERDAY, THE BOOK, and nothing else");
        DutiesHat x = Check.told("hall 3;ring 2;skill 0 0 7");
        x.keep(0);
        Check.write(x, "ring 3");
        due("back(0)", x.back(0), 0);
        due("count(3)", x.count(3), 6);
        due("count(0)", x.count(0), 3);
        due("count(1)", x.count(1), 2);
        due("monk(0, 0, 0)", x.monk(0, 0, 0), 7);
        due("hall()", x.hall(), 1);
    }

    // ---- 26

    private static void countWhat() {
        says("26: 0 .. 4; OUTSIDE");
        DutiesHat x = new DutiesHat();
        int[] due = {OUTSIDE, 4, 3, 0, 0, 0, OUTSIDE};
        for (int what = -1; what <= 5; what++) {
            due("count(" + what + ")", x.count(what), due[what + 1]);
        }
        due("count(least)", x.count(Integer.MIN_VALUE), OUTSIDE);
        due("count(greatest)", x.count(Integer.MAX_VALUE), OUTSIDE);
    }

    private static void countOfEach() {
        says("26: MONKS, RING, DAWNS of THE BOOK, bytes of THE TEXT, whether something is drawn");
        for (int n = 2; n <= 7; n++) {
            for (int ring : new int[] {0, 2, 3}) {
                DutiesHat x = Check.told("hall " + n + ";ring " + ring);
                dawns(x, 0, 16);
                Check.write(x, " ".repeat(200));
                int[] due = {n, ring, 16, 200, 0};
                for (int what = 0; what < 5; what++) {
                    due("of " + n + " by " + ring + ": count(" + what + ")", x.count(what), due[what]);
                }
                x.lay(0);
                due("of " + n + " by " + ring + ": count(4), drawn", x.count(4), 1);
                x.lay(-1);
                due("of " + n + " by " + ring + ": count(4), a refused lay", x.count(4), 1);
            }
        }
    }
}
