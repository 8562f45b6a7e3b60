import java.util.function.Supplier;
import java.util.function.ToLongFunction;

/**
 * "Refused, and nothing changes: UNKNOWN, OUTSIDE, NOT, FULL: the first of these that fits": each call that can be
 * refused, each of its refusals, what is told where two fit, and that all is as it was behind it.
 */
public final class RefusedTest {
    private static final int NONE = -1, UNKNOWN = -2, OUTSIDE = -3, NOT = -4, FULL = -5;
    private static final int LEAST = Integer.MIN_VALUE, GREATEST = Integer.MAX_VALUE;
    private static final Check CHECK = new Check();
    private static final String KINDS = ";tiring 0;holy 1;sweet 2;did 0 2;did 1 0";
    private static final String LIKINGS = ";like 0 1 9;like 1 2 8;like 2 0 7;like 1 0 6";
    private static final String PENDING = "skill 0 0 9;like 2 2 0;ring 0;did 2 2";
    private static final String NO_LAWFUL = "hall 3;skill 0 0 0;skill 0 1 0;skill 0 2 0;did 1 1";

    /* Each makes the same object each time it is asked. */
    private static final Supplier<DutiesHat> FRESH = DutiesHat::new;
    private static final Supplier<DutiesHat> DRAWN = () -> made("hall 3" + KINDS + LIKINGS, 3, true, PENDING);
    private static final Supplier<DutiesHat> DRAWN_BY_TWO =
            () -> made("hall 3;ring 2" + KINDS + LIKINGS, 3, true, PENDING);
    private static final Supplier<DutiesHat> DRAWN_BY_NONE =
            () -> made("hall 3;ring 0" + KINDS + LIKINGS, 3, true, PENDING);
    private static final Supplier<DutiesHat> NOTHING_DRAWN = () -> made("hall 3" + KINDS + LIKINGS, 3, false, PENDING);
    private static final Supplier<DutiesHat> NOTHING_DRAWN_BY_TWO =
            () -> made("hall 3;ring 2" + KINDS + LIKINGS, 3, false, PENDING);
    private static final Supplier<DutiesHat> NOTHING_DRAWN_BY_NONE =
            () -> made("hall 3;ring 0" + KINDS + LIKINGS, 3, false, PENDING);
    private static final Supplier<DutiesHat> FULL_BOOK = () -> made("hall 3" + KINDS + LIKINGS, 16, true, PENDING);
    private static final Supplier<DutiesHat> FULL_BOOK_NOTHING_DRAWN =
            () -> made("hall 3" + KINDS + LIKINGS, 16, false, PENDING);
    private static final Supplier<DutiesHat> FULL_TEXT =
            () -> made("hall 3" + KINDS, 2, true, PENDING + " ".repeat(200 - PENDING.length()));
    private static final Supplier<DutiesHat> ALMOST_FULL_TEXT =
            () -> made("hall 3" + KINDS, 2, true, PENDING + " ".repeat(196 - PENDING.length()));
    private static final Supplier<DutiesHat> NONE_LAWFUL = () -> made(NO_LAWFUL, 0, false, PENDING);
    private static final Supplier<DutiesHat> SIX = () -> made("hall 6" + KINDS + LIKINGS, 3, true, PENDING);
    private static final Supplier<DutiesHat> SEVEN = () -> made("hall 7" + KINDS, 3, true, PENDING);

    public static void main(String[] args) {
        write();
        hall();
        monk();
        as();
        lay();
        draw();
        has();
        tradeByThree();
        tradeByTwo();
        tradeByNone();
        settle();
        dawn();
        today();
        ends();
        hint();
        mean();
        odds();
        week();
        often();
        tail();
        named();
        keep();
        back();
        count();
        nothingIsRefused();
        CHECK.end();
    }

    /** An object with dawns done, two images kept, perhaps a draw, and a text that waits. */
    private static DutiesHat made(String text, int dawns, boolean drawn, String pending) {
        DutiesHat x = Check.told(text);
        x.keep(0);
        for (int i = 0; i < dawns; i++) {
            x.draw(100 + i);
            if (i == 1) {
                x.keep(1);
            }
            x.dawn();
        }
        if (drawn) {
            x.draw(999);
        }
        Check.write(x, pending);
        return x;
    }

    private static void says(String sentence) {
        CHECK.says(sentence);
    }

    private static void refused(String call, Supplier<DutiesHat> made, ToLongFunction<DutiesHat> asked, int due) {
        for (int view = 0; view < Witness.VIEWS; view++) {
            DutiesHat untouched = made.get();
            DutiesHat touched = made.get();
            CHECK.due(call, asked.applyAsLong(touched), due);
            CHECK.due(call + " again", asked.applyAsLong(touched), due);
            CHECK.isTrue("behind " + call + " view " + view + " is as ahead of it",
                    Witness.view(touched, view).equals(Witness.view(untouched, view)));
        }
    }

    private static void write() {
        says("2: OUTSIDE");
        for (int n : new int[] {LEAST, -1, 0, 9, GREATEST}) {
            refused("write(-1, " + n + ")", DRAWN, x -> x.write(-1L, n), OUTSIDE);
        }
        says("2: FULL");
        for (int n = 5; n <= 8; n++) {
            int bytes = n;
            refused("write(-1, " + n + "), 196 are there", ALMOST_FULL_TEXT, x -> x.write(-1L, bytes), FULL);
        }
        refused("write(-1, 1), 200 are there", FULL_TEXT, x -> x.write(-1L, 1), FULL);
        refused("write(-1, 8), 200 are there", FULL_TEXT, x -> x.write(-1L, 8), FULL);
        says("2: OUTSIDE ahead of FULL");
        refused("write(-1, 9), 200 are there", FULL_TEXT, x -> x.write(-1L, 9), OUTSIDE);
        refused("write(-1, 0), 200 are there", FULL_TEXT, x -> x.write(-1L, 0), OUTSIDE);
    }

    private static void hall() {
        says("5: NOT");
        String[] texts = {"", " ", "hall", "hall 8", "hall 2;ring 1", "ring 2;", "skill 0 0 0;did 0 3", "ring 2 2"};
        for (String text : texts) {
            refused("hall() of '" + text + "'", () -> made("hall 3" + KINDS, 3, true, text), DutiesHat::hall, NOT);
        }
        refused("hall() of 15 lines", () -> made("hall 3", 3, true, "ring 0" + ";ring 0".repeat(14)), DutiesHat::hall,
                NOT);
        refused("hall() at first", FRESH, DutiesHat::hall, NOT);
    }

    private static void monk() {
        says("6: UNKNOWN");
        for (int one : new int[] {LEAST, -1, 3, 7, GREATEST}) {
            refused("monk(" + one + ", 0, 0)", DRAWN, x -> x.monk(one, 0, 0), UNKNOWN);
            refused("monk(0, " + one + ", 0)", DRAWN, x -> x.monk(0, one, 0), UNKNOWN);
        }
        refused("monk(7, 0, 0) of seven", SEVEN, x -> x.monk(7, 0, 0), UNKNOWN);
        refused("monk(0, 7, 0) of seven", SEVEN, x -> x.monk(0, 7, 0), UNKNOWN);
        says("6: OUTSIDE");
        for (int what : new int[] {LEAST, -1, 3, GREATEST}) {
            refused("monk(0, 0, " + what + ")", DRAWN, x -> x.monk(0, 0, what), OUTSIDE);
        }
        says("6: UNKNOWN ahead of OUTSIDE");
        refused("monk(3, 0, 3)", DRAWN, x -> x.monk(3, 0, 3), UNKNOWN);
        refused("monk(0, -1, -1)", DRAWN, x -> x.monk(0, -1, -1), UNKNOWN);
    }

    private static void as() {
        says("7: UNKNOWN");
        for (int duty : new int[] {LEAST, -1, 3, 7, GREATEST}) {
            refused("as(" + duty + ", 0)", DRAWN, x -> x.as(duty, 0), UNKNOWN);
        }
        refused("as(7, 0) of seven", SEVEN, x -> x.as(7, 0), UNKNOWN);
        says("7: OUTSIDE");
        for (int kind : new int[] {LEAST, -1, 5, GREATEST}) {
            refused("as(0, " + kind + ")", DRAWN, x -> x.as(0, kind), OUTSIDE);
        }
        says("7: NOT");
        int[][] none = {{0, 3}, {0, 4}, {1, 1}, {1, 2}, {1, 4}, {2, 1}, {2, 2}};
        for (int[] of : none) {
            refused("as(" + of[0] + ", " + of[1] + ")", DRAWN, x -> x.as(of[0], of[1]), NOT);
        }
        says("7: UNKNOWN ahead of OUTSIDE");
        refused("as(3, 5)", DRAWN, x -> x.as(3, 5), UNKNOWN);
        refused("as(-1, -1)", DRAWN, x -> x.as(-1, -1), UNKNOWN);
        says("7: OUTSIDE ahead of NOT");
        refused("as(1, 5)", DRAWN, x -> x.as(1, 5), OUTSIDE);
    }

    private static void lay() {
        says("8: OUTSIDE");
        for (int number : new int[] {LEAST, -1, 6, GREATEST}) {
            refused("lay(" + number + ")", DRAWN, x -> x.lay(number), OUTSIDE);
            refused("lay(" + number + "), nothing drawn", NOTHING_DRAWN, x -> x.lay(number), OUTSIDE);
        }
        refused("lay(5040) of seven", SEVEN, x -> x.lay(5040), OUTSIDE);
        says("8: NOT");
        for (int number = 0; number < 6; number++) {
            int draw = number;
            refused("lay(" + number + "), none is lawful", NONE_LAWFUL, x -> x.lay(draw), NOT);
        }
        refused("lay(0) over a draw", () -> drawnWithoutFirst(), x -> x.lay(0), NOT);
        says("8: OUTSIDE ahead of NOT");
        refused("lay(6), none is lawful", NONE_LAWFUL, x -> x.lay(6), OUTSIDE);
        refused("lay(-1), none is lawful", NONE_LAWFUL, x -> x.lay(-1), OUTSIDE);
    }

    /** MONK 2 can not do 2, so that the first draw is not lawful. */
    private static DutiesHat drawnWithoutFirst() {
        return made("hall 3;skill 2 2 0", 3, true, PENDING);
    }

    private static void draw() {
        says("9: OUTSIDE");
        for (int z : new int[] {LEAST, -1, 0, 10000, GREATEST}) {
            refused("draw(" + z + ")", DRAWN, x -> x.draw(z), OUTSIDE);
            refused("draw(" + z + "), nothing drawn", NOTHING_DRAWN, x -> x.draw(z), OUTSIDE);
        }
        says("9: NOT");
        refused("draw(1), none is lawful", NONE_LAWFUL, x -> x.draw(1), NOT);
        refused("draw(9999), none is lawful", NONE_LAWFUL, x -> x.draw(9999), NOT);
        // Draw 0 alone is lawful, and by 62 it is the 51st.
        refused("draw(62) over a draw", RefusedTest::oneLawful, x -> x.draw(62), NOT);
        says("9: OUTSIDE ahead of NOT");
        refused("draw(0), none is lawful", NONE_LAWFUL, x -> x.draw(0), OUTSIDE);
        refused("draw(10000), none is lawful", NONE_LAWFUL, x -> x.draw(10000), OUTSIDE);
    }

    private static DutiesHat oneLawful() {
        DutiesHat x = Check.told("hall 4;skill 0 1 0;skill 0 2 0;skill 0 3 0;skill 1 2 0;skill 1 3 0;skill 2 3 0");
        x.lay(0);
        return x;
    }

    private static void has() {
        says("10: UNKNOWN");
        for (int one : new int[] {LEAST, -1, 3, 7, GREATEST}) {
            refused("has(" + one + ", 0)", DRAWN, x -> x.has(one, 0), UNKNOWN);
            refused("has(" + one + ", 1)", NOTHING_DRAWN, x -> x.has(one, 1), UNKNOWN);
        }
        says("10: OUTSIDE");
        for (int what : new int[] {LEAST, -1, 2, GREATEST}) {
            refused("has(0, " + what + ")", DRAWN, x -> x.has(0, what), OUTSIDE);
            refused("has(0, " + what + "), nothing drawn", NOTHING_DRAWN, x -> x.has(0, what), OUTSIDE);
        }
        says("10: UNKNOWN ahead of OUTSIDE");
        refused("has(3, 2)", DRAWN, x -> x.has(3, 2), UNKNOWN);
        refused("has(-1, -1)", DRAWN, x -> x.has(-1, -1), UNKNOWN);
    }

    private static void refusedTrade(String when, Supplier<DutiesHat> made, int a, int b, int c, int due) {
        refused(when + ": trade(" + a + ", " + b + ", " + c + ")", made, x -> x.trade(a, b, c), due);
    }

    private static void tradeByThree() {
        says("11: UNKNOWN: a, b, c by RING 3");
        for (int one : new int[] {LEAST, NONE, 3, 7, GREATEST}) {
            refusedTrade("by 3", DRAWN, one, 1, 2, UNKNOWN);
            refusedTrade("by 3", DRAWN, 0, one, 2, UNKNOWN);
            refusedTrade("by 3", DRAWN, 0, 1, one, UNKNOWN);
        }
        says("11: OUTSIDE: two alike");
        refusedTrade("by 3", DRAWN, 0, 0, 1, OUTSIDE);
        refusedTrade("by 3", DRAWN, 0, 1, 0, OUTSIDE);
        refusedTrade("by 3", DRAWN, 1, 0, 0, OUTSIDE);
        refusedTrade("by 3", DRAWN, 2, 2, 2, OUTSIDE);
        says("11: NOT: nothing is drawn, it is not WANTED");
        refusedTrade("by 3, nothing drawn", NOTHING_DRAWN, 0, 1, 2, NOT);
        refusedTrade("by 3, not wanted", RefusedTest::notWanted, 0, 1, 2, NOT);
        refusedTrade("by 3, not wanted", RefusedTest::notWanted, 0, 2, 1, NOT);
        says("11: UNKNOWN ahead of OUTSIDE");
        refusedTrade("by 3", DRAWN, 3, 3, 1, UNKNOWN);
        refusedTrade("by 3", DRAWN, 0, 0, 3, UNKNOWN);
        refusedTrade("by 3", DRAWN, 0, NONE, NONE, UNKNOWN);
        says("11: UNKNOWN ahead of NOT");
        refusedTrade("by 3, nothing drawn", NOTHING_DRAWN, 0, 1, 3, UNKNOWN);
        refusedTrade("by 3, nothing drawn", NOTHING_DRAWN, 0, 1, NONE, UNKNOWN);
        says("11: OUTSIDE ahead of NOT");
        refusedTrade("by 3, nothing drawn", NOTHING_DRAWN, 0, 1, 1, OUTSIDE);
        refusedTrade("by 3, nothing drawn", NOTHING_DRAWN, 0, 1, 0, OUTSIDE);
    }

    private static DutiesHat notWanted() {
        return made("hall 3", 3, true, PENDING);
    }

    private static void tradeByTwo() {
        says("11: UNKNOWN: a, b");
        for (int one : new int[] {LEAST, NONE, 3, 7, GREATEST}) {
            refusedTrade("by 2", DRAWN_BY_TWO, one, 1, NONE, UNKNOWN);
            refusedTrade("by 2", DRAWN_BY_TWO, 0, one, NONE, UNKNOWN);
        }
        says("11: OUTSIDE: c if RING is not 3, two alike");
        for (int c : new int[] {LEAST, -2, 0, 2, 3, 7, GREATEST}) {
            refusedTrade("by 2", DRAWN_BY_TWO, 0, 1, c, OUTSIDE);
        }
        refusedTrade("by 2", DRAWN_BY_TWO, 1, 1, NONE, OUTSIDE);
        says("11: NOT: nothing is drawn, it is not WANTED");
        refusedTrade("by 2, nothing drawn", NOTHING_DRAWN_BY_TWO, 0, 1, NONE, NOT);
        refusedTrade("by 2, not wanted", () -> made("hall 3;ring 2", 3, true, PENDING), 0, 1, NONE, NOT);
        says("11: UNKNOWN ahead of OUTSIDE");
        refusedTrade("by 2", DRAWN_BY_TWO, 3, 3, NONE, UNKNOWN);
        refusedTrade("by 2", DRAWN_BY_TWO, 3, 1, 2, UNKNOWN);
        says("11: UNKNOWN ahead of NOT");
        refusedTrade("by 2, nothing drawn", NOTHING_DRAWN_BY_TWO, 0, 3, NONE, UNKNOWN);
        says("11: OUTSIDE ahead of NOT");
        refusedTrade("by 2, nothing drawn", NOTHING_DRAWN_BY_TWO, 0, 1, 2, OUTSIDE);
        refusedTrade("by 2, nothing drawn", NOTHING_DRAWN_BY_TWO, 1, 1, NONE, OUTSIDE);
    }

    private static void tradeByNone() {
        says("11: NOT: RING is 0");
        refusedTrade("by 0", DRAWN_BY_NONE, 0, 1, NONE, NOT);
        refusedTrade("by 0", DRAWN_BY_NONE, 2, 0, NONE, NOT);
        refusedTrade("by 0, nothing drawn", NOTHING_DRAWN_BY_NONE, 0, 1, NONE, NOT);
        says("11: UNKNOWN, OUTSIDE ahead of NOT");
        refusedTrade("by 0", DRAWN_BY_NONE, 3, 1, NONE, UNKNOWN);
        refusedTrade("by 0", DRAWN_BY_NONE, 0, -1, 5, UNKNOWN);
        refusedTrade("by 0", DRAWN_BY_NONE, 0, 1, 2, OUTSIDE);
        refusedTrade("by 0", DRAWN_BY_NONE, 0, 0, NONE, OUTSIDE);
        refusedTrade("by 0, nothing drawn", NOTHING_DRAWN_BY_NONE, 0, 1, 2, OUTSIDE);
    }

    private static void settle() {
        says("12: NOT");
        refused("settle() at first", FRESH, DutiesHat::settle, NOT);
        refused("settle(), nothing drawn", NOTHING_DRAWN, DutiesHat::settle, NOT);
        refused("settle() by 2, nothing drawn", NOTHING_DRAWN_BY_TWO, DutiesHat::settle, NOT);
        refused("settle() by 0, nothing drawn", NOTHING_DRAWN_BY_NONE, DutiesHat::settle, NOT);
    }

    private static void dawn() {
        says("13: NOT");
        refused("dawn() at first", FRESH, DutiesHat::dawn, NOT);
        refused("dawn(), nothing drawn", NOTHING_DRAWN, DutiesHat::dawn, NOT);
        says("13: FULL");
        refused("dawn() 17", FULL_BOOK, DutiesHat::dawn, FULL);
        says("13: NOT ahead of FULL");
        refused("dawn() 17, nothing drawn", FULL_BOOK_NOTHING_DRAWN, DutiesHat::dawn, NOT);
    }

    private static void today() {
        says("14: OUTSIDE");
        for (int what : new int[] {LEAST, -1, 3, GREATEST}) {
            refused("today(" + what + ")", DRAWN, x -> x.today(what), OUTSIDE);
        }
        says("14: NOT");
        for (int what = 0; what < 3; what++) {
            int of = what;
            refused("today(" + what + "), nothing drawn", NOTHING_DRAWN, x -> x.today(of), NOT);
        }
        says("14: OUTSIDE ahead of NOT");
        refused("today(3), nothing drawn", NOTHING_DRAWN, x -> x.today(3), OUTSIDE);
        refused("today(-1), nothing drawn", NOTHING_DRAWN, x -> x.today(-1), OUTSIDE);
    }

    private static void ends() {
        says("15: OUTSIDE");
        for (int what : new int[] {LEAST, -1, 3, GREATEST}) {
            refused("ends(" + what + ")", DRAWN, x -> x.ends(what), OUTSIDE);
        }
        says("15: NOT");
        for (int what = 0; what < 3; what++) {
            int of = what;
            refused("ends(" + what + "), nothing drawn", NOTHING_DRAWN, x -> x.ends(of), NOT);
        }
        says("15: OUTSIDE ahead of NOT");
        refused("ends(3), nothing drawn", NOTHING_DRAWN, x -> x.ends(3), OUTSIDE);
        refused("ends(-1), nothing drawn", NOTHING_DRAWN, x -> x.ends(-1), OUTSIDE);
    }

    private static void hint() {
        says("16: UNKNOWN");
        for (int one : new int[] {LEAST, -1, 3, 7, GREATEST}) {
            refused("hint(" + one + ")", DRAWN, x -> x.hint(one), UNKNOWN);
        }
        says("16: NOT");
        refused("hint(0), nothing drawn", NOTHING_DRAWN, x -> x.hint(0), NOT);
        refused("hint(2), nothing drawn", NOTHING_DRAWN, x -> x.hint(2), NOT);
        says("16: UNKNOWN ahead of NOT");
        refused("hint(3), nothing drawn", NOTHING_DRAWN, x -> x.hint(3), UNKNOWN);
        refused("hint(-1), nothing drawn", NOTHING_DRAWN, x -> x.hint(-1), UNKNOWN);
    }

    private static void mean() {
        says("18: OUTSIDE");
        int[][] outside = {{LEAST, 0, 0}, {-1, 0, 0}, {1, 0, 0}, {4, 0, 0}, {GREATEST, 0, 0}, {0, LEAST, 0}, {0, -1, 0},
            {2, 2, 0}, {3, GREATEST, 0}, {0, 0, LEAST}, {2, 0, -1}, {3, 1, 2}, {0, 1, GREATEST}};
        for (int[] t : outside) {
            refused("mean(" + t[0] + ", " + t[1] + ", " + t[2] + ")", DRAWN, x -> x.mean(t[0], t[1], t[2]), OUTSIDE);
        }
        says("18: NOT");
        for (int ring : new int[] {0, 2, 3}) {
            refused("mean(" + ring + ", 0, 0), none is lawful", NONE_LAWFUL, x -> x.mean(ring, 0, 0), NOT);
            refused("mean(" + ring + ", 1, 1), none is lawful", NONE_LAWFUL, x -> x.mean(ring, 1, 1), NOT);
        }
        says("18: OUTSIDE ahead of NOT");
        for (int[] t : outside) {
            refused("mean(" + t[0] + ", " + t[1] + ", " + t[2] + "), none is lawful", NONE_LAWFUL,
                    x -> x.mean(t[0], t[1], t[2]), OUTSIDE);
        }
    }

    private static void odds() {
        says("19: UNKNOWN");
        for (int one : new int[] {LEAST, -1, 3, 7, GREATEST}) {
            refused("odds(" + one + ", 0, 0, 0)", DRAWN, x -> x.odds(one, 0, 0, 0), UNKNOWN);
            refused("odds(0, " + one + ", 0, 0)", DRAWN, x -> x.odds(0, one, 0, 0), UNKNOWN);
        }
        says("19: OUTSIDE");
        int[][] outside = {{LEAST, 0}, {-1, 0}, {1, 0}, {4, 0}, {GREATEST, 0}, {0, LEAST}, {2, -1}, {3, 2}, {0, GREATEST}};
        for (int[] t : outside) {
            refused("odds(0, 0, " + t[0] + ", " + t[1] + ")", DRAWN, x -> x.odds(0, 0, t[0], t[1]), OUTSIDE);
        }
        says("19: NOT");
        for (int ring : new int[] {0, 2, 3}) {
            refused("odds(0, 0, " + ring + ", 0), none is lawful", NONE_LAWFUL, x -> x.odds(0, 0, ring, 0), NOT);
            refused("odds(2, 2, " + ring + ", 1), none is lawful", NONE_LAWFUL, x -> x.odds(2, 2, ring, 1), NOT);
        }
        says("19: UNKNOWN ahead of OUTSIDE");
        refused("odds(3, 0, 1, 0)", DRAWN, x -> x.odds(3, 0, 1, 0), UNKNOWN);
        refused("odds(0, 3, 0, 2)", DRAWN, x -> x.odds(0, 3, 0, 2), UNKNOWN);
        says("19: UNKNOWN ahead of NOT");
        refused("odds(3, 0, 0, 0), none is lawful", NONE_LAWFUL, x -> x.odds(3, 0, 0, 0), UNKNOWN);
        refused("odds(0, -1, 1, 2), none is lawful", NONE_LAWFUL, x -> x.odds(0, -1, 1, 2), UNKNOWN);
        says("19: OUTSIDE ahead of NOT");
        refused("odds(0, 0, 1, 0), none is lawful", NONE_LAWFUL, x -> x.odds(0, 0, 1, 0), OUTSIDE);
        refused("odds(0, 0, 0, 2), none is lawful", NONE_LAWFUL, x -> x.odds(0, 0, 0, 2), OUTSIDE);
    }

    private static void week() {
        says("20: OUTSIDE");
        for (int w : new int[] {LEAST, -1, 0, 8, GREATEST}) {
            refused("week(" + w + ")", DRAWN, x -> x.week(w), OUTSIDE);
        }
        says("20: NOT");
        refused("week(1) of six", SIX, x -> x.week(1), NOT);
        refused("week(7) of seven", SEVEN, x -> x.week(7), NOT);
        says("20: OUTSIDE ahead of NOT");
        refused("week(0) of six", SIX, x -> x.week(0), OUTSIDE);
        refused("week(8) of seven", SEVEN, x -> x.week(8), OUTSIDE);
    }

    private static void often() {
        says("21: UNKNOWN");
        for (int one : new int[] {LEAST, -1, 3, 7, GREATEST}) {
            refused("often(" + one + ", 0)", DRAWN, x -> x.often(one, 0), UNKNOWN);
            refused("often(0, " + one + ")", DRAWN, x -> x.often(0, one), UNKNOWN);
        }
    }

    private static void tail() {
        says("22: UNKNOWN");
        for (int one : new int[] {LEAST, -1, 3, 7, GREATEST}) {
            refused("tail(" + one + ", 0, 0)", DRAWN, x -> x.tail(one, 0, 0), UNKNOWN);
            refused("tail(0, " + one + ", 1)", DRAWN, x -> x.tail(0, one, 1), UNKNOWN);
        }
        says("22: OUTSIDE");
        for (int part : new int[] {LEAST, -1, 2, GREATEST}) {
            refused("tail(0, 0, " + part + ")", DRAWN, x -> x.tail(0, 0, part), OUTSIDE);
            refused("tail(0, 0, " + part + "), nothing is done", FRESH, x -> x.tail(0, 0, part), OUTSIDE);
        }
        says("22: UNKNOWN ahead of OUTSIDE");
        refused("tail(3, 0, 2)", DRAWN, x -> x.tail(3, 0, 2), UNKNOWN);
        refused("tail(0, -1, -1)", DRAWN, x -> x.tail(0, -1, -1), UNKNOWN);
    }

    private static void named() {
        says("23: OUTSIDE");
        for (int q : new int[] {LEAST, -1, 1001, GREATEST}) {
            refused("named(" + q + ")", DRAWN, x -> x.named(q), OUTSIDE);
            refused("named(" + q + "), nothing is done", FRESH, x -> x.named(q), OUTSIDE);
        }
    }

    private static void keep() {
        says("24: UNKNOWN");
        for (int k : new int[] {LEAST, -1, 2, GREATEST}) {
            refused("keep(" + k + ")", DRAWN, x -> x.keep(k), UNKNOWN);
            refused("keep(" + k + ") at first", FRESH, x -> x.keep(k), UNKNOWN);
        }
    }

    private static void back() {
        says("25: UNKNOWN");
        for (int k : new int[] {LEAST, -1, 2, GREATEST}) {
            refused("back(" + k + ")", DRAWN, x -> x.back(k), UNKNOWN);
        }
        says("25: NOT");
        refused("back(0) at first", FRESH, x -> x.back(0), NOT);
        refused("back(1) at first", FRESH, x -> x.back(1), NOT);
        refused("back(1), 0 is kept", () -> made("hall 3" + KINDS, 1, true, PENDING), x -> x.back(1), NOT);
        refused("back(0) behind a text", RefusedTest::keptAheadOfAText, x -> x.back(0), NOT);
        refused("back(1) behind a text", RefusedTest::keptAheadOfAText, x -> x.back(1), NOT);
        says("25: UNKNOWN ahead of NOT");
        refused("back(2) at first", FRESH, x -> x.back(2), UNKNOWN);
        refused("back(-1) at first", FRESH, x -> x.back(-1), UNKNOWN);
    }

    private static DutiesHat keptAheadOfAText() {
        DutiesHat x = DRAWN.get();
        x.hall();
        x.draw(7);
        return x;
    }

    private static void count() {
        says("26: OUTSIDE");
        for (int what : new int[] {LEAST, -1, 5, GREATEST}) {
            refused("count(" + what + ")", DRAWN, x -> x.count(what), OUTSIDE);
        }
    }

    /** The objects that are asked above are such that a view shows what a call does. */
    private static void nothingIsRefused() {
        says("what is not refused is seen");
        Object[][] calls = {
            {"write", (ToLongFunction<DutiesHat>) x -> x.write(Check.pack(" ", 0), 1)},
            {"erase", (ToLongFunction<DutiesHat>) DutiesHat::erase},
            {"hall", (ToLongFunction<DutiesHat>) DutiesHat::hall},
            {"dawn", (ToLongFunction<DutiesHat>) DutiesHat::dawn},
            {"keep(0)", (ToLongFunction<DutiesHat>) x -> x.keep(0)},
            {"keep(1)", (ToLongFunction<DutiesHat>) x -> x.keep(1)},
            {"back(0)", (ToLongFunction<DutiesHat>) x -> x.back(0)},
            {"back(1)", (ToLongFunction<DutiesHat>) x -> x.back(1)}};
        for (Object[] call : calls) {
            boolean differs = false;
            for (int view = 0; view < Witness.VIEWS; view++) {
                DutiesHat untouched = DRAWN.get();
                DutiesHat touched = DRAWN.get();
                @SuppressWarnings("unchecked")
                ToLongFunction<DutiesHat> asked = (ToLongFunction<DutiesHat>) call[1];
                CHECK.isTrue(call[0] + " is not refused", asked.applyAsLong(touched) >= 0);
                differs = differs || !Witness.view(touched, view).equals(Witness.view(untouched, view));
            }
            CHECK.isTrue(call[0] + " is seen by a view", differs);
        }
    }
}
