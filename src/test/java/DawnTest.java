/** Promises 8 to 14: lay, draw, has, trade, settle, dawn, today. */
public final class DawnTest {
    private static final int NONE = -1, UNKNOWN = -2, OUTSIDE = -3, NOT = -4, FULL = -5;
    private static final Check CHECK = new Check();

    public static void main(String[] args) {
        layByNumber();
        layRefused();
        drawBySeed();
        drawRefused();
        has();
        tradeOfThree();
        tradeOfTwo();
        tradeRefused();
        tradeIsWantedByAll();
        settleInOrder();
        settleRefused();
        dawn();
        today();
        CHECK.end();
    }

    private static void due(String call, long got, long want) {
        CHECK.due(call, got, want);
    }

    private static void dueRow(String call, DutiesHat x, int... row) {
        for (int m = 0; m < row.length; m++) {
            due(call + ": has(" + m + ", 0)", x.has(m, 0), row[m]);
        }
    }

    private static void layByNumber() {
        DutiesHat x = Check.told("hall 3");
        int[][] rows = {{0, 1, 2}, {0, 2, 1}, {1, 0, 2}, {1, 2, 0}, {2, 0, 1}, {2, 1, 0}};
        for (int number = 0; number < 6; number++) {
            due("lay(" + number + ")", x.lay(number), 1);
            dueRow("lay(" + number + ")", x, rows[number]);
            due("today(0)", x.today(0), number);
        }
        int[] draws = {2, 6, 24, 120, 720, 5040};
        for (int n = 2; n <= 7; n++) {
            x = Check.told("hall " + n);
            due("lay(n!) of " + n, x.lay(draws[n - 2]), OUTSIDE);
            due("count(4)", x.count(4), 0);
            due("lay(n! less 1) of " + n, x.lay(draws[n - 2] - 1), 1);
            due("has(0, 0)", x.has(0, 0), n - 1);
            due("has(n less 1, 0)", x.has(n - 1, 0), 0);
            for (int number = 0; number < draws[n - 2]; number += draws[n - 2] / 200 + 1) {
                x.lay(number);
                due("today(0) of " + n, x.today(0), number);
            }
        }
    }

    private static void layRefused() {
        DutiesHat x = Check.told("hall 3;skill 0 0 0");
        due("lay(-1)", x.lay(-1), OUTSIDE);
        due("lay(6)", x.lay(6), OUTSIDE);
        due("lay(least)", x.lay(Integer.MIN_VALUE), OUTSIDE);
        due("lay(greatest)", x.lay(Integer.MAX_VALUE), OUTSIDE);
        due("lay(0)", x.lay(0), NOT);
        due("count(4)", x.count(4), 0);
        due("lay(2)", x.lay(2), 1);
        due("lay(1)", x.lay(1), NOT);
        due("lay(7)", x.lay(7), OUTSIDE);
        due("today(0) is as it was", x.today(0), 2);
        Check.tell(x, "hall 3;holy 1;did 1 1");
        due("lay(0) by yesterday", x.lay(0), NOT);
        due("lay(5) by yesterday", x.lay(5), NOT);
        due("lay(1)", x.lay(1), 1);
    }

    private static void drawBySeed() {
        DutiesHat x = Check.told("hall 2");
        // x becomes 16807, which is odd: places 1 and 1 are exchanged.
        due("draw(1) of two", x.draw(1), 1);
        dueRow("draw(1) of two", x, 0, 1);
        // x becomes 33614, which is even: places 1 and 0 are exchanged.
        due("draw(2) of two", x.draw(2), 1);
        dueRow("draw(2) of two", x, 1, 0);
        // By 4 x becomes 1707 (odd), then 56812 (even): the second draw is the first that is lawful.
        Check.tell(x, "skill 0 0 0");
        due("draw(4), the second being lawful", x.draw(4), 2);
        dueRow("draw(4)", x, 1, 0);
        Check.tell(x, "hall 7");
        due("draw(9999) of seven", x.draw(9999), 1);
        due("today(0)", x.today(0), modelDraw(7, 9999));
        due("draw(1) of seven", x.draw(1), 1);
        due("today(0)", x.today(0), modelDraw(7, 1));
    }

    private static int modelDraw(int n, int z) {
        Model model = new Model();
        model.write(Check.pack("hall " + n, 0), 6);
        model.hall();
        model.draw(z);
        return model.today(0);
    }

    private static void drawRefused() {
        DutiesHat x = Check.told("hall 2");
        due("draw(0)", x.draw(0), OUTSIDE);
        due("draw(10000)", x.draw(10000), OUTSIDE);
        due("draw(-1)", x.draw(-1), OUTSIDE);
        due("draw(greatest)", x.draw(Integer.MAX_VALUE), OUTSIDE);
        due("draw(9999)", x.draw(9999), 1);
        Check.tell(x, "hall 2;skill 0 0 0;skill 1 0 0");
        due("draw(1) where none is lawful", x.draw(1), NOT);
        due("draw(0) where none is lawful", x.draw(0), OUTSIDE);
        due("count(4)", x.count(4), 0);
        // Of these the 50th draw by 281 is the first that is lawful, by 804 the 51st.
        Check.tell(x, "hall 4;skill 0 1 0;skill 0 2 0;skill 0 3 0;skill 1 0 0;skill 1 2 0;skill 1 3 0");
        due("draw(281)", x.draw(281), 50);
        x.lay(1);
        due("draw(804)", x.draw(804), NOT);
        due("today(0) is as it was", x.today(0), 1);
        // One of seven draws is lawful.
        StringBuilder text = new StringBuilder("hall 7");
        for (int d = 1; d < 7; d++) {
            text.append(";skill 0 ").append(d).append(" 0");
        }
        Check.tell(x, text.toString());
        Model model = new Model();
        tellModel(model, text.toString());
        int most = 0;
        for (int z = 1; z <= 300; z++) {
            int tries = model.draw(z);
            most = Math.max(most, tries);
            due("draw(" + z + ") of one in seven", x.draw(z), tries);
        }
        CHECK.isTrue("a seed needs many draws", most > 25);
        Check.tell(x, "hall 3;holy 0;holy 1;holy 2");
        x.lay(3);
        due("nothing changes by a refusal", x.draw(-5), OUTSIDE);
        due("today(0)", x.today(0), 3);
    }

    private static void tellModel(Model model, String text) {
        for (int i = 0; i < text.length(); i += 8) {
            model.write(Check.pack(text, i), Math.min(8, text.length() - i));
        }
        model.hall();
    }

    private static void has() {
        DutiesHat x = Check.told("hall 3;did 1 2");
        due("has(0, 0)", x.has(0, 0), NONE);
        due("has(0, 1)", x.has(0, 1), NONE);
        due("has(1, 1)", x.has(1, 1), 2);
        x.lay(4);
        dueRow("lay(4)", x, 2, 0, 1);
        due("has(1, 1) behind lay", x.has(1, 1), 2);
        due("has(3, 0)", x.has(3, 0), UNKNOWN);
        due("has(-1, 1)", x.has(-1, 1), UNKNOWN);
        due("has(3, 5)", x.has(3, 5), UNKNOWN);
        due("has(0, 2)", x.has(0, 2), OUTSIDE);
        due("has(0, -1)", x.has(0, -1), OUTSIDE);
    }

    private static void tradeOfThree() {
        DutiesHat x = Check.told("hall 5;like 1 3 6;like 3 4 7;like 4 1 8");
        int[][] turns = {{1, 3, 4}, {3, 4, 1}, {4, 1, 3}};
        for (int[] turn : turns) {
            x.lay(0);
            due("trade(" + turn[0] + ", " + turn[1] + ", " + turn[2] + ")", x.trade(turn[0], turn[1], turn[2]), 31);
            dueRow("trade", x, 0, 3, 2, 4, 1);
        }
        x.lay(0);
        due("trade(1, 4, 3)", x.trade(1, 4, 3), NOT);
        dueRow("refused", x, 0, 1, 2, 3, 4);
    }

    private static void tradeOfTwo() {
        DutiesHat x = Check.told("hall 4;ring 2;like 1 3 6;like 3 1 9");
        x.lay(0);
        due("trade(3, 1, NONE)", x.trade(3, 1, NONE), 25);
        dueRow("trade(3, 1, NONE)", x, 0, 3, 2, 1);
        due("trade(3, 1, NONE) again", x.trade(3, 1, NONE), NOT);
        x.lay(0);
        due("trade(1, 3, NONE)", x.trade(1, 3, NONE), 25);
        // Behind a trade it is still what was drawn that is done.
        x.dawn();
        due("has(1, 1)", x.has(1, 1), 3);
    }

    private static void tradeRefused() {
        DutiesHat x = Check.told("hall 3;like 0 1 9;like 1 2 9;like 2 0 9");
        due("trade(0, 1, 2), nothing drawn", x.trade(0, 1, 2), NOT);
        due("trade(0, 1, 3), nothing drawn", x.trade(0, 1, 3), UNKNOWN);
        due("trade(0, 1, 1), nothing drawn", x.trade(0, 1, 1), OUTSIDE);
        x.lay(0);
        int[][] unknown = {{3, 1, 2}, {0, 3, 2}, {0, 1, 3}, {-1, 1, 2}, {0, -1, 2}, {0, 1, NONE}, {0, 0, 3}};
        for (int[] t : unknown) {
            due("trade(" + t[0] + ", " + t[1] + ", " + t[2] + ")", x.trade(t[0], t[1], t[2]), UNKNOWN);
        }
        int[][] alike = {{0, 0, 1}, {0, 1, 0}, {1, 0, 0}, {2, 2, 2}};
        for (int[] t : alike) {
            due("trade(" + t[0] + ", " + t[1] + ", " + t[2] + ")", x.trade(t[0], t[1], t[2]), OUTSIDE);
        }
        due("trade(0, 1, 2)", x.trade(0, 1, 2), 27);
        for (int ring : new int[] {0, 2}) {
            Check.tell(x, "hall 3;like 0 1 9;like 1 0 9;ring " + ring);
            due("by " + ring + ": trade(0, 1, 2), nothing drawn", x.trade(0, 1, 2), OUTSIDE);
            due("by " + ring + ": trade(0, 1, NONE), nothing drawn", x.trade(0, 1, NONE), NOT);
            x.lay(0);
            due("by " + ring + ": trade(0, 1, 2)", x.trade(0, 1, 2), OUTSIDE);
            due("by " + ring + ": trade(0, 1, 99)", x.trade(0, 1, 99), OUTSIDE);
            due("by " + ring + ": trade(0, 1, -2)", x.trade(0, 1, -2), OUTSIDE);
            due("by " + ring + ": trade(0, 3, 2)", x.trade(0, 3, 2), UNKNOWN);
            due("by " + ring + ": trade(-1, 0, NONE)", x.trade(-1, 0, NONE), UNKNOWN);
            due("by " + ring + ": trade(1, 1, NONE)", x.trade(1, 1, NONE), OUTSIDE);
            due("by " + ring + ": trade(0, 2, NONE)", x.trade(0, 2, NONE), NOT);
            due("by " + ring + ": today(0)", x.today(0), 0);
        }
        due("by 2: trade(0, 1, NONE)", x.trade(0, 1, NONE), 23);
        Check.tell(x, "ring 0");
        x.lay(0);
        due("by 0: trade(0, 1, NONE)", x.trade(0, 1, NONE), NOT);
    }

    private static void tradeIsWantedByAll() {
        String full = "hall 3;like 0 1 9;like 1 2 9;like 2 0 9";
        String[] spoils = {";like 0 1 5", ";like 1 2 5", ";like 2 0 5", ";skill 0 1 0", ";skill 1 2 0", ";skill 2 0 0",
                ";holy 1;did 0 1", ";holy 2;did 1 2", ";holy 0;did 2 0"};
        for (String spoil : spoils) {
            DutiesHat x = Check.told(full + spoil);
            due("lay(0) with" + spoil, x.lay(0), 1);
            due("trade(0, 1, 2) with" + spoil, x.trade(0, 1, 2), NOT);
            due("settle() with" + spoil, x.settle(), 0);
        }
        String two = "hall 2;ring 2;like 0 1 9;like 1 0 9";
        String[] spoilsOfTwo = {";like 0 1 5", ";like 1 0 4", ";skill 0 1 0", ";skill 1 0 0", ";holy 1;did 0 1",
                ";holy 0;did 1 0"};
        for (String spoil : spoilsOfTwo) {
            DutiesHat x = Check.told(two + spoil);
            due("lay(0) with" + spoil, x.lay(0), 1);
            due("trade(0, 1, NONE) with" + spoil, x.trade(0, 1, NONE), NOT);
        }
    }

    private static void settleInOrder() {
        // By 0 and 1 first, though 0 and 2 would be gladder.
        DutiesHat x = Check.told("hall 3;ring 2;like 0 1 8;like 0 2 9;like 1 0 9;like 2 0 9");
        x.lay(0);
        due("settle() by 2", x.settle(), 1);
        dueRow("settle() by 2", x, 1, 0, 2);
        due("settle() again", x.settle(), 0);
        // Two rings of three: (0, 1, 2) and (0, 2, 1); the first by b is made, and none is left.
        Check.tell(x, "hall 3;like 0 1 6;like 1 2 6;like 2 0 6;like 0 2 6;like 2 1 6;like 1 0 6");
        x.lay(0);
        due("settle() by 3", x.settle(), 1);
        dueRow("settle() by 3", x, 1, 2, 0);
        // Four monks: (0, 1, 2), (0, 1, 3): by c.
        Check.tell(x, "hall 4;like 0 1 6;like 1 2 6;like 1 3 6;like 2 0 6;like 3 0 6");
        x.lay(0);
        due("settle() by c", x.settle(), 1);
        dueRow("settle() by c", x, 1, 2, 0, 3);
        // (0, 3, 1) is ahead of (1, 2, 3), and the second is wanted no more.
        Check.tell(x, "hall 4;like 0 3 6;like 3 1 6;like 1 0 6;like 1 2 6;like 2 3 6");
        x.lay(0);
        due("settle() by a", x.settle(), 1);
        dueRow("settle() by a", x, 3, 0, 2, 1);
        // One trade leads to the next.
        Check.tell(x, "hall 3;ring 2;like 0 1 6;like 1 0 6;like 0 2 7;like 2 1 7");
        x.lay(0);
        due("settle() of two", x.settle(), 2);
        dueRow("settle() of two", x, 2, 0, 1);
    }

    private static void settleRefused() {
        DutiesHat x = new DutiesHat();
        due("settle(), nothing drawn", x.settle(), NOT);
        Check.tell(x, "hall 2;ring 0;like 0 1 9;like 1 0 9");
        due("settle() by 0, nothing drawn", x.settle(), NOT);
        x.lay(0);
        due("settle() by 0", x.settle(), 0);
        due("today(0)", x.today(0), 0);
    }

    private static void dawn() {
        DutiesHat x = Check.told("hall 2;holy 0");
        due("dawn(), nothing drawn", x.dawn(), NOT);
        for (int d = 1; d <= 16; d++) {
            due("lay of what was done", x.lay(d & 1), 1);
            due("dawn()", x.dawn(), d);
            due("count(2)", x.count(2), d);
            due("count(4)", x.count(4), 0);
            due("has(0, 0)", x.has(0, 0), NONE);
            due("has(0, 1)", x.has(0, 1), d & 1);
            due("the same again", x.lay(d & 1), NOT);
        }
        due("dawn() 17, nothing drawn", x.dawn(), NOT);
        x.lay(1);
        due("dawn() 17", x.dawn(), FULL);
        due("has(0, 1) is as it was", x.has(0, 1), 0);
        due("has(0, 0) is as it was", x.has(0, 0), 1);
        due("count(2)", x.count(2), 16);
        due("often(0, 0)", x.often(0, 0), 8);
        Check.tell(x, "plain 0");
        x.lay(0);
        due("dawn() behind a text", x.dawn(), 1);
    }

    private static void today() {
        DutiesHat x = Check.told("hall 3;skill 0 2 9;skill 1 0 1;like 0 2 0;like 2 1 8");
        for (int what = 0; what < 3; what++) {
            due("today(" + what + "), nothing drawn", x.today(what), NOT);
        }
        due("today(3), nothing drawn", x.today(3), OUTSIDE);
        due("today(-1), nothing drawn", x.today(-1), OUTSIDE);
        x.lay(4);
        due("today(0)", x.today(0), 4);
        due("today(1)", x.today(1), 15);
        due("today(2)", x.today(2), 13);
        due("today(3)", x.today(3), OUTSIDE);
        due("today(-1)", x.today(-1), OUTSIDE);
        x.dawn();
        due("today(0) behind dawn", x.today(0), NOT);
    }
}
