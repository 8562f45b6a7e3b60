/** Promises 21 to 26: often, tail, named, keep, back, count. */
public final class BookTest {
    private static final int NONE = -1, UNKNOWN = -2, OUTSIDE = -3, NOT = -4;
    private static final Check CHECK = new Check();

    public static void main(String[] args) {
        often();
        tail();
        tailOfLongBooks();
        named();
        namedInOrder();
        keepAndBack();
        keptBook();
        keptBooksApart();
        keptDraw();
        keepRefused();
        count();
        CHECK.end();
    }

    private static void due(String call, long got, long want) {
        CHECK.due(call, got, want);
    }

    private static void dawns(DutiesHat x, int... numbers) {
        for (int number : numbers) {
            x.lay(number);
            x.dawn();
        }
    }

    private static void often() {
        DutiesHat x = Check.told("hall 3");
        due("often(0, 0) of an empty book", x.often(0, 0), 0);
        dawns(x, 0, 1, 5, 0);
        int[][] times = {{3, 0, 1}, {0, 3, 1}, {1, 1, 2}};
        for (int m = 0; m < 3; m++) {
            for (int d = 0; d < 3; d++) {
                due("often(" + m + ", " + d + ")", x.often(m, d), times[m][d]);
            }
        }
        x.lay(0);
        due("often(0, 0): today is not done yet", x.often(0, 0), 3);
        due("often(3, 0)", x.often(3, 0), UNKNOWN);
        due("often(0, 3)", x.often(0, 3), UNKNOWN);
        due("often(-1, 0)", x.often(-1, 0), UNKNOWN);
        due("often(0, -1)", x.often(0, -1), UNKNOWN);
    }

    private static void dueTail(String of, DutiesHat x, int monk, int duty, long above, long below) {
        due(of + ": tail(" + monk + ", " + duty + ", 0)", x.tail(monk, duty, 0), above);
        due(of + ": tail(" + monk + ", " + duty + ", 1)", x.tail(monk, duty, 1), below);
    }

    private static void tail() {
        DutiesHat x = Check.told("hall 3");
        dueTail("empty book", x, 0, 0, 1, 1);
        dawns(x, 0);
        dueTail("one dawn", x, 0, 0, 1, 3);
        dueTail("one dawn", x, 0, 1, 1, 1);
        dawns(x, 1);
        dueTail("two dawns", x, 0, 0, 1, 9);
        dueTail("two dawns", x, 1, 1, 5, 9);
        dueTail("two dawns", x, 1, 0, 1, 1);
        dawns(x, 5);
        // Two or more of three: (3 * 2 + 1) / 27; one or more: 19 / 27.
        dueTail("three dawns", x, 0, 0, 7, 27);
        dueTail("three dawns", x, 0, 2, 19, 27);
        Check.tell(x, "hall 2");
        dawns(x, 0, 0, 1, 1);
        // Two or more of four: 11 / 16. In lowest terms: three or more of four is 5 / 16; of three dawns 1 / 2.
        dueTail("four dawns", x, 0, 0, 11, 16);
        Check.tell(x, "hall 2");
        dawns(x, 0, 0, 1);
        dueTail("lowest terms", x, 0, 0, 1, 2);
        due("tail(2, 0, 0)", x.tail(2, 0, 0), UNKNOWN);
        due("tail(0, 2, 0)", x.tail(0, 2, 0), UNKNOWN);
        due("tail(-1, 0, 7)", x.tail(-1, 0, 7), UNKNOWN);
        due("tail(0, -1, 7)", x.tail(0, -1, 7), UNKNOWN);
        due("tail(0, 0, 2)", x.tail(0, 0, 2), OUTSIDE);
        due("tail(0, 0, -1)", x.tail(0, 0, -1), OUTSIDE);
    }

    private static void tailOfLongBooks() {
        DutiesHat x = Check.told("hall 7");
        for (int d = 0; d < 16; d++) {
            dawns(x, 0);
        }
        dueTail("16 dawns of seven", x, 6, 6, 1, 33232930569601L);
        dueTail("16 dawns of seven", x, 6, 5, 1, 1);
        due("named(1)", x.named(1), 0);
        due("named(1000)", x.named(1000), 0);
        due("named(0)", x.named(0), NONE);
        Check.tell(x, "hall 7");
        dawns(x, 0);
        for (int d = 1; d < 16; d++) {
            dawns(x, 5039);
        }
        // One or more of 16: 7 ^ 16 less 6 ^ 16.
        dueTail("once in 16", x, 0, 0, 33232930569601L - 2821109907456L, 33232930569601L);
        dueTail("15 of 16", x, 0, 6, 16 * 6 + 1, 33232930569601L);
    }

    private static void named() {
        DutiesHat x = Check.told("hall 2");
        due("named(1000) of an empty book", x.named(1000), NONE);
        due("named(-1)", x.named(-1), OUTSIDE);
        due("named(1001)", x.named(1001), OUTSIDE);
        due("named(least)", x.named(Integer.MIN_VALUE), OUTSIDE);
        due("named(greatest)", x.named(Integer.MAX_VALUE), OUTSIDE);
        dawns(x, 0, 0, 0);
        due("named(126) by 1 / 8", x.named(126), 0);
        due("named(125) by 1 / 8", x.named(125), NONE);
        due("named(0)", x.named(0), NONE);
        dawns(x, 1);
        // 5 / 16: 312.5 thousandths.
        due("named(313) by 5 / 16", x.named(313), 0);
        due("named(312) by 5 / 16", x.named(312), NONE);
    }

    private static void namedInOrder() {
        // Rows 1 2 0 and 2 1 0: MONK 2 had 0 twice, MONK 0 had 1 and 2 once.
        DutiesHat x = Check.told("hall 3");
        dawns(x, 3, 5);
        due("named(1000)", x.named(1000), 1);
        due("named(500)", x.named(500), 20);
        due("named(112)", x.named(112), 20);
        due("named(111)", x.named(111), NONE);
        Check.tell(x, "hall 7");
        dawns(x, 0);
        due("named(143) of seven", x.named(143), 0);
        due("named(142) of seven", x.named(142), NONE);
        Check.tell(x, "hall 7;skill 0 0 0");
        dawns(x, 5039, 5039);
        due("named(1000) of seven", x.named(1000), 6);
    }

    private static void keepAndBack() {
        DutiesHat x = Check.told("hall 3;did 0 1");
        due("keep(0)", x.keep(0), 0);
        dawns(x, 0);
        due("keep(1)", x.keep(1), 1);
        dawns(x, 5);
        x.lay(2);
        due("back(0)", x.back(0), 0);
        due("count(2)", x.count(2), 0);
        due("count(4)", x.count(4), 0);
        due("has(0, 1)", x.has(0, 1), 1);
        due("has(1, 1)", x.has(1, 1), NONE);
        due("back(1)", x.back(1), 1);
        due("has(1, 1)", x.has(1, 1), 1);
        due("often(0, 0)", x.often(0, 0), 1);
        dawns(x, 3);
        due("keep(0) anew", x.keep(0), 2);
        due("back(1)", x.back(1), 1);
        due("back(0)", x.back(0), 2);
        due("often(0, 1)", x.often(0, 1), 1);
    }

    private static void keptBook() {
        DutiesHat x = Check.told("hall 2");
        dawns(x, 0, 1);
        x.keep(0);
        x.back(0);
        dawns(x, 1, 1);
        due("back(0)", x.back(0), 2);
        dawns(x, 0);
        due("often(0, 0)", x.often(0, 0), 2);
        due("back(0) again", x.back(0), 2);
        due("often(0, 0) again", x.often(0, 0), 1);
        due("often(0, 1) again", x.often(0, 1), 1);
    }

    private static void keptBooksApart() {
        DutiesHat x = Check.told("hall 2");
        x.keep(0);
        dawns(x, 0);
        x.keep(1);
        x.back(0);
        dawns(x, 1);
        due("often(0, 1)", x.often(0, 1), 1);
        x.back(1);
        due("often(0, 1) behind back", x.often(0, 1), 0);
        due("often(0, 0) behind back", x.often(0, 0), 1);
    }

    private static void keptDraw() {
        DutiesHat x = Check.told("hall 2;ring 2;like 0 1 9;like 1 0 9");
        x.lay(0);
        x.keep(1);
        due("settle()", x.settle(), 1);
        x.back(1);
        due("today(0)", x.today(0), 0);
        due("settle() behind back", x.settle(), 1);
        x.back(1);
        x.dawn();
        due("dawn() behind back", x.has(0, 1), 0);
        x.back(1);
        due("count(4)", x.count(4), 1);
        due("has(0, 1)", x.has(0, 1), NONE);
        due("trade(0, 1, NONE)", x.trade(0, 1, NONE), 18);
        x.back(1);
        due("today(0) is as kept", x.today(0), 0);
    }

    private static void keepRefused() {
        DutiesHat x = new DutiesHat();
        for (int k : new int[] {-1, 2, Integer.MIN_VALUE, Integer.MAX_VALUE}) {
            due("keep(" + k + ")", x.keep(k), UNKNOWN);
            due("back(" + k + ")", x.back(k), UNKNOWN);
        }
        due("back(0)", x.back(0), NOT);
        due("back(1)", x.back(1), NOT);
        x.keep(1);
        due("back(0), the other is kept", x.back(0), NOT);
        due("back(1)", x.back(1), 0);
        Check.tell(x, "ring 0");
        due("back(1) behind a text", x.back(1), NOT);
        x.keep(0);
        Check.write(x, "ring 1");
        x.hall();
        due("back(0) behind a refused text", x.back(0), 0);
        x.lay(0);
        x.back(1);
        due("count(4) behind a refused back", x.count(4), 1);
    }

    private static void count() {
        DutiesHat x = Check.told("hall 6;ring 2");
        Check.write(x, "ring 0;");
        x.lay(0);
        x.dawn();
        int[] due = {6, 2, 1, 7, 0};
        for (int what = 0; what < 5; what++) {
            due("count(" + what + ")", x.count(what), due[what]);
        }
        x.lay(1);
        due("count(4) behind lay", x.count(4), 1);
        due("count(-1)", x.count(-1), OUTSIDE);
        due("count(5)", x.count(5), OUTSIDE);
        due("count(least)", x.count(Integer.MIN_VALUE), OUTSIDE);
    }
}
