import java.util.Arrays;

/** Promises 1 to 7 at their edges: a method for each sentence that names one, on both sides of it. */
public final class ToldEdgesTest {
    private static final int NONE = -1, UNKNOWN = -2, OUTSIDE = -3, NOT = -4, FULL = -5;
    private static final Check CHECK = new Check();
    /** Each line with numbers that can stand there. */
    private static final String[] LINES = {"hall 4", "skill 0 0 0", "like 0 0 0", "plain 0", "tiring 0", "holy 0",
        "sweet 0", "ring 0", "did 0 0"};
    private static final String FOURTEEN = "ring 0" + ";ring 0".repeat(13);

    public static void main(String[] args) {
        atFirst();
        writeOneToEight();
        writeByteByByte();
        writeTwoHundred();
        writeFullChangesNothing();
        erase();
        eraseTouchesTheTextAlone();
        noFault();
        hallOfTwoToSeven();
        skillAndLikingOfNoneToNine();
        ringButNotOne();
        monksAndDutiesThatThereAre();
        monksAndDutiesBehindTheLinesAhead();
        numbersOfOneOrTwoDigits();
        tokens();
        blanksAlone();
        words();
        tokenThatCannotStand();
        tokenTooMany();
        endTooSoon();
        endOfTwoHundred();
        erasedBytesAreGone();
        fourteenLines();
        firstFault();
        faultChangesNothing();
        hallOfNoText();
        hallOfLines();
        hallInTheirOrder();
        hallAllAsAtFirst();
        hallBehindTheLines();
        hallYesterdayAsTold();
        monkAndDuty();
        monkWhat();
        monkMaySkill();
        monkMayTiring();
        monkMayHoly();
        monkMayPlainAndSweet();
        asKinds();
        asHowMany();
        CHECK.end();
    }

    private static void says(String sentence) {
        CHECK.says(sentence);
    }

    private static void due(String call, long got, long want) {
        CHECK.due(call, got, want);
    }

    private static void dueFault(String text, int place) {
        due("fault of '" + text + "'", Check.faultOf(text), place);
    }

    private static String blanks(int many) {
        return " ".repeat(many);
    }

    // ---- 1

    private static void atFirst() {
        says("1: 4 at first; DUTIES likewise as many");
        DutiesHat x = new DutiesHat();
        due("count(0)", x.count(0), 4);
        due("monk(3, 3, 0)", x.monk(3, 3, 0), 5);
        due("monk(4, 3, 0)", x.monk(4, 3, 0), UNKNOWN);
        due("monk(3, 4, 0)", x.monk(3, 4, 0), UNKNOWN);
        due("lay(23)", x.lay(23), 1);
        due("lay(24)", x.lay(24), OUTSIDE);
        says("1: SKILL 5 at first, LIKING 5 at first");
        for (int m = 0; m < 4; m++) {
            for (int d = 0; d < 4; d++) {
                due("monk(" + m + ", " + d + ", 0)", x.monk(m, d, 0), 5);
                due("monk(" + m + ", " + d + ", 1)", x.monk(m, d, 1), 5);
            }
        }
        says("1: PLAIN (as at first)");
        for (int d = 0; d < 4; d++) {
            due("as(" + d + ", 1)", x.as(d, 1), 4);
            due("as(" + d + ", 2)", x.as(d, 2), NOT);
            due("as(" + d + ", 3)", x.as(d, 3), NOT);
            due("as(" + d + ", 4)", x.as(d, 4), NOT);
        }
        says("1: RING 3 at first");
        due("count(1)", x.count(1), 3);
        due("trade(0, 1, NONE)", x.trade(0, 1, NONE), UNKNOWN);
        due("trade(0, 1, 2)", x.trade(0, 1, 2), NOT);
        says("1: a new object has nothing drawn, done, written, kept");
        x = new DutiesHat();
        due("count(4)", x.count(4), 0);
        due("count(2)", x.count(2), 0);
        due("count(3)", x.count(3), 0);
        due("has(0, 0)", x.has(0, 0), NONE);
        due("has(3, 1)", x.has(3, 1), NONE);
        due("back(0)", x.back(0), NOT);
        due("back(1)", x.back(1), NOT);
    }

    // ---- 2

    private static void writeOneToEight() {
        says("2: n (1 .. 8) bytes more");
        for (int n : new int[] {Integer.MIN_VALUE, -8, -1, 0, 9, 16, Integer.MAX_VALUE}) {
            DutiesHat x = new DutiesHat();
            due("write(0, " + n + ")", x.write(0, n), OUTSIDE);
            due("count(3) behind it", x.count(3), 0);
        }
        for (int n = 1; n <= 8; n++) {
            DutiesHat x = new DutiesHat();
            due("write(0, " + n + ")", x.write(0, n), n);
            due("write(0, " + n + ") again", x.write(0, n), 2 * n);
            due("count(3) behind it", x.count(3), 2 * n);
        }
    }

    private static void writeByteByByte() {
        says("2: byte i being bytes >> 8 i & 255");
        long eightBlanks = Check.pack(blanks(8), 0);
        DutiesHat blank = new DutiesHat();
        blank.write(eightBlanks, 8);
        due("fault() of 8 blanks", blank.fault(), 8);
        for (int foreign : new int[] {0, 1, 127, 128, 255}) {
            for (int i = 0; i < 8; i++) {
                DutiesHat x = new DutiesHat();
                x.write(eightBlanks & ~(255L << 8 * i) | (long) foreign << 8 * i, 8);
                due("fault() with byte " + foreign + " at " + i, x.fault(), i);
            }
        }
        for (int n = 1; n < 8; n++) {
            DutiesHat x = new DutiesHat();
            x.write(eightBlanks | 255L << 8 * n, n);
            x.write(eightBlanks, 1);
            due("fault() of " + n + " bytes, the next not taken", x.fault(), n + 1);
        }
    }

    private static void fill(DutiesHat x, int many) {
        Check.write(x, blanks(many));
    }

    private static void writeTwoHundred() {
        says("2: a row of bytes, 200 at most");
        for (int n = 1; n <= 8; n++) {
            DutiesHat x = new DutiesHat();
            fill(x, 200 - n);
            due("write of " + n + " up to 200", x.write(0, n), 200);
            due("write of 1 behind 200", x.write(0, 1), FULL);
            DutiesHat y = new DutiesHat();
            fill(y, 201 - n);
            due("write of " + n + " up to 201", y.write(0, n), FULL);
            due("count(3) behind it", y.count(3), 201 - n);
            if (n > 1) {
                due("write of " + (n - 1) + " up to 200", y.write(0, n - 1), 200);
            }
        }
    }

    private static void writeFullChangesNothing() {
        says("2: FULL, and nothing changes");
        DutiesHat x = new DutiesHat();
        Check.write(x, "ring 2" + blanks(190));
        due("write of 5 up to 201", x.write(-1L, 5), FULL);
        due("write of 8 up to 204", x.write(-1L, 8), FULL);
        due("fault()", x.fault(), NONE);
        due("write of 4 up to 200", x.write(Check.pack("    ", 0), 4), 200);
        due("write of 1 up to 201", x.write(-1L, 1), FULL);
        due("fault() of 200", x.fault(), NONE);
        due("hall()", x.hall(), 1);
        due("write of 8, it is empty again", x.write(0, 8), 8);
    }

    // ---- 3

    private static void erase() {
        says("3: THE TEXT is empty: how many bytes it had");
        DutiesHat x = new DutiesHat();
        due("erase() of 0", x.erase(), 0);
        fill(x, 1);
        due("erase() of 1", x.erase(), 1);
        due("erase() of 0 again", x.erase(), 0);
        fill(x, 200);
        due("erase() of 200", x.erase(), 200);
        due("count(3)", x.count(3), 0);
        due("write behind erase()", x.write(0, 8), 8);
        x.erase();
        Check.write(x, "ring 2");
        x.hall();
        due("erase() behind hall()", x.erase(), 0);
        Check.write(x, "ring 1");
        x.hall();
        due("erase() behind a refused hall()", x.erase(), 6);
    }

    private static void eraseTouchesTheTextAlone() {
        says("3: nothing else is as it was not");
        DutiesHat x = Check.told("hall 3;ring 2;did 0 1");
        x.lay(0);
        x.dawn();
        x.lay(5);
        x.keep(0);
        Check.write(x, "hall 2");
        x.erase();
        int[] counts = {3, 2, 1, 0, 1};
        for (int what = 0; what < 5; what++) {
            due("count(" + what + ")", x.count(what), counts[what]);
        }
        due("today(0)", x.today(0), 5);
        due("has(1, 1)", x.has(1, 1), 1);
        due("back(0)", x.back(0), 1);
    }

    // ---- 4

    private static void noFault() {
        says("4: NONE");
        for (String line : LINES) {
            dueFault(line, NONE);
            dueFault(blanks(3) + line + blanks(3), NONE);
            dueFault(line.replace(" ", blanks(4)), NONE);
            for (String other : LINES) {
                dueFault(line + ";" + other, NONE);
                dueFault(line + " ; " + other, NONE);
            }
        }
    }

    private static void hallOfTwoToSeven() {
        says("4: n 2 .. 7");
        for (int n = 0; n <= 99; n++) {
            dueFault("hall " + n, n >= 2 && n <= 7 ? NONE : 5);
        }
    }

    private static void skillAndLikingOfNoneToNine() {
        says("4: SKILL 0 .. 9, LIKING 0 .. 9");
        for (int v = 0; v <= 99; v++) {
            dueFault("skill 0 0 " + v, v <= 9 ? NONE : 10);
            dueFault("like 0 0 " + v, v <= 9 ? NONE : 9);
        }
    }

    private static void ringButNotOne() {
        says("4: RING is 0, 2 or 3; 1 cannot stand there");
        for (int r = 0; r <= 99; r++) {
            dueFault("ring " + r, r == 0 || r == 2 || r == 3 ? NONE : 5);
        }
    }

    private static void monksAndDutiesThatThereAre() {
        says("4: M, D such as there are");
        String[][] places = {{"skill ", " 0 0"}, {"skill 0 ", " 0"}, {"like ", " 0 0"}, {"like 0 ", " 0"}, {"did ", " 0"},
            {"did 0 ", ""}, {"plain ", ""}, {"tiring ", ""}, {"holy ", ""}, {"sweet ", ""}};
        for (int n = 2; n <= 7; n++) {
            for (String[] place : places) {
                DutiesHat x = Check.told("hall " + n);
                for (int one = 0; one <= 12; one++) {
                    dueFaultIn(x, place[0] + one + place[1], one < n ? NONE : place[0].length());
                }
            }
        }
    }

    private static void dueFaultIn(DutiesHat x, String text, int place) {
        x.erase();
        Check.write(x, text);
        due("of " + x.count(0) + ": fault of '" + text + "'", x.fault(), place);
    }

    private static void monksAndDutiesBehindTheLinesAhead() {
        says("4: such as there are behind the LINES ahead");
        for (int n = 2; n <= 7; n++) {
            dueFault("hall " + n + ";did " + (n - 1) + " " + (n - 1), NONE);
            dueFault("hall " + n + ";did " + n + " 0", 11);
            dueFault("hall " + n + ";did 0 " + n, 13);
            dueFault("hall " + n + ";ring 2;holy " + (n - 1), NONE);
            dueFault("hall " + n + ";ring 2;holy " + n, 19);
        }
        dueFault("did 3 3;hall 2", NONE);
        dueFault("did 4 3;hall 7", 4);
        dueFault("hall 2;hall 7;did 6 6", NONE);
        dueFault("hall 7;hall 2;did 1 1", NONE);
        dueFault("hall 7;hall 2;did 2 1", 18);
        dueFault("hall 7;did 6 6;hall 2;did 1 2", 28);
        // A text that was not done is no LINE ahead.
        DutiesHat x = new DutiesHat();
        Check.write(x, "hall 7;ring 1");
        x.fault();
        x.hall();
        dueFaultIn(x, "did 4 0", 4);
        dueFaultIn(x, "did 3 0", NONE);
        dueFaultIn(x, "hall 7", NONE);
        dueFaultIn(x, "did 4 0", 4);
    }

    private static void numbersOfOneOrTwoDigits() {
        says("4: numbers of 1 or 2 digits (of more digits, also)");
        String[] heads = {"hall ", "skill ", "skill 0 ", "skill 0 0 ", "like ", "like 0 ", "like 0 0 ", "plain ",
            "tiring ", "holy ", "sweet ", "ring ", "did ", "did 0 "};
        String[] rests = {"", " 0 0", " 0", "", " 0 0", " 0", "", "", "", "", "", "", " 0", ""};
        for (int i = 0; i < heads.length; i++) {
            dueFault(heads[i] + "2" + rests[i], NONE);
            dueFault(heads[i] + "02" + rests[i], NONE);
            dueFault(heads[i] + "002" + rests[i], heads[i].length());
            dueFault(heads[i] + "0002" + rests[i], heads[i].length());
            dueFault(heads[i] + "200" + rests[i], heads[i].length());
            dueFault(heads[i] + "0".repeat(30) + "2" + rests[i], heads[i].length());
        }
        // 4294967298 is 2 in 32 bits, 18446744073709551618 in 64.
        dueFault("hall 4294967298", 5);
        dueFault("hall 18446744073709551618", 5);
        DutiesHat x = Check.told("hall 07;skill 06 05 09;did 00 06");
        due("count(0) by 07", x.count(0), 7);
        due("monk(6, 5, 0) by 09", x.monk(6, 5, 0), 9);
        due("has(0, 1) by 06", x.has(0, 1), 6);
    }

    private static void tokens() {
        says("4: a row of small letters, a row of digits, any other byte");
        // Letters are 97 .. 122, digits 48 .. 57; a row that goes on is one TOKEN, another byte ends it.
        for (int b = 0; b < 256; b++) {
            char sign = (char) b;
            boolean letter = b >= 97 && b <= 122;
            boolean digit = b >= 48 && b <= 57;
            if (b == 32) {
                continue;
            }
            boolean aRing = b == 48 || b == 50 || b == 51;
            dueFault("ring" + sign + " 2", letter ? 0 : aRing ? 6 : 4);
            dueFault("hall 2" + sign, b == 59 ? 7 : digit ? 5 : 6);
            dueFault(sign + "ring 2", 0);
            dueFault("ring 2;" + sign + " ring 2", 7);
        }
        dueFault("ringa 2", 0);
        dueFault("ringz 2", 0);
        dueFault("rin 2", 0);
        dueFault("r ing 2", 0);
        dueFault("ring 2a", 6);
        dueFault("ring 2 ;ringring 2", 8);
        dueFault("ring,,2", 4);
        dueFault("RING 2", 0);
        dueFault("rinG 2", 0);
        dueFault("hall ,2", 5);
        dueFault("hall -2", 5);
        dueFault("hall +2", 5);
        dueFault("skill 0,0,0", 7);
        dueFault("hall 2.", 6);
    }

    private static void blanksAlone() {
        says("4: blanks (32) between");
        for (int b = 0; b < 256; b++) {
            if (b == 32) {
                dueFault("ring" + (char) b + "2", NONE);
                dueFault("did 0" + (char) b + "1", NONE);
            } else if (b < 48 || b > 57) {
                dueFault("did 0" + (char) b + "1", 5);
            }
        }
        dueFault("did 01", 6);
        dueFault("did 0 1", NONE);
        dueFault("did 0" + blanks(190) + "1", NONE);
        dueFault("ring 2\n", 6);
        dueFault("ring 2\u00a0", 6);
    }

    private static void words() {
        says("4: each is one of");
        for (String line : LINES) {
            int letters = line.indexOf(' ');
            for (int i = 0; i < letters; i++) {
                char other = line.charAt(i) == 'q' ? 'z' : 'q';
                dueFault(line.substring(0, i) + other + line.substring(i + 1), 0);
                dueFault(line.substring(0, i) + line.substring(i + 1), 0);
                dueFault(line.substring(0, i) + other + line.substring(i), 0);
            }
            dueFault(line, NONE);
            dueFault(line.substring(0, letters) + "s" + line.substring(letters), 0);
        }
    }

    private static void tokenThatCannotStand() {
        says("4: at the first TOKEN that cannot stand there");
        String[] noVerb = {"x", "ringg", "hal", "duty", "kind", "5", "00", ";", ",", "\0", "\u00ff", "A"};
        for (String bad : noVerb) {
            dueFault(bad, 0);
            dueFault("  " + bad + " 0", 2);
            dueFault("ring 2;" + bad, 7);
            dueFault("ring 2 ;  " + bad, 10);
        }
        String[] noNumber = {"x", "ring", ";", ",", "\0", "\u00ff", "A", "-1", "100", "10"};
        for (String line : LINES) {
            String[] parts = line.split(" ");
            for (int i = 1; i < parts.length; i++) {
                String head = String.join(" ", Arrays.copyOf(parts, i)) + " ";
                String rest = " " + String.join(" ", Arrays.copyOfRange(parts, i + 1, parts.length));
                for (String bad : noNumber) {
                    dueFault(head + bad, head.length());
                    dueFault(head + bad + rest, head.length());
                    dueFault("ring 2;" + head + bad + rest, 7 + head.length());
                }
            }
        }
    }

    private static void tokenTooMany() {
        says("4: behind a LINE there is ; or the end");
        String[] more = {"0", "00", "x", "ring", "ring 2", ",", ":", "\0", "\u00ff"};
        for (String line : LINES) {
            for (String bad : more) {
                dueFault(line + " " + bad, line.length() + 1);
                dueFault(line + "  " + bad + ";ring 2", line.length() + 2);
            }
            dueFault(line + ";ring 2", NONE);
            dueFault(line + ";;ring 2", line.length() + 1);
        }
    }

    private static void endTooSoon() {
        says("4: or at the end, if it comes too soon");
        dueFault("", 0);
        dueFault(" ", 1);
        dueFault(blanks(200), 200);
        for (String line : LINES) {
            String[] parts = line.split(" ");
            for (int i = 1; i < parts.length; i++) {
                String head = String.join(" ", Arrays.copyOf(parts, i));
                dueFault(head, head.length());
                dueFault(head + blanks(5), head.length() + 5);
                dueFault("ring 2;" + head, 7 + head.length());
                dueFault(head + blanks(200 - head.length()), 200);
            }
            dueFault(line + ";", line.length() + 1);
            dueFault(line + "; ", line.length() + 2);
            dueFault(line + ";" + line + ";", 2 * line.length() + 2);
        }
        // A word cut off is another word: it cannot stand, where it begins.
        dueFault("hal", 0);
        dueFault("ring 2;hal", 7);
    }

    private static void endOfTwoHundred() {
        says("4: a TOKEN that ends with the 200th byte");
        dueFault("x".repeat(200), 0);
        dueFault("9".repeat(200), 0);
        dueFault(blanks(196) + "hall", 200);
        dueFault(blanks(196) + "hals", 196);
        dueFault("did 0" + blanks(194) + "3", NONE);
        dueFault("did 0" + blanks(194) + "4", 199);
        dueFault("did 0" + blanks(193) + "03", NONE);
        dueFault("did 0" + blanks(192) + "003", 197);
        dueFault("did 0 0" + blanks(192) + ";", 200);
        dueFault("did 0 0" + blanks(192) + ",", 199);
    }

    private static void erasedBytesAreGone() {
        says("4: behind the length nothing is read");
        String[][] texts = {{"halls 4", "hall"}, {"hall 4", "hall"}, {"hall 42", "hall 4"}, {"hall 4;x", "hall 4"},
            {"hall 4 x", "hall 4"}, {"skill 0 0 9", "skill 0 0 "}, {"hall 4;ring 2", "hall 4;"}};
        int[] due = {4, 4, NONE, NONE, NONE, 10, 7};
        for (int i = 0; i < texts.length; i++) {
            DutiesHat x = new DutiesHat();
            Check.write(x, texts[i][0]);
            x.erase();
            Check.write(x, texts[i][1]);
            due("fault of '" + texts[i][1] + "' where '" + texts[i][0] + "' was", x.fault(), due[i]);
        }
    }

    private static void fourteenLines() {
        says("4: LINES with ; between, 14 at most");
        for (int lines = 1; lines <= 14; lines++) {
            dueFault("ring 0" + ";ring 0".repeat(lines - 1), NONE);
        }
        dueFault(FOURTEEN + ";ring 0", FOURTEEN.length());
        dueFault(FOURTEEN + "  ;ring 0", FOURTEEN.length() + 2);
        dueFault(FOURTEEN + ";", FOURTEEN.length());
        dueFault(FOURTEEN + ";x", FOURTEEN.length());
        dueFault(FOURTEEN + " ", NONE);
        dueFault(FOURTEEN + " x", FOURTEEN.length() + 1);
        String thirteen = FOURTEEN.substring(7);
        dueFault(thirteen + ";", thirteen.length() + 1);
        dueFault(thirteen + ";x", thirteen.length() + 1);
    }

    private static void firstFault() {
        says("4: read to their first fault");
        dueFault("hall 8;ring 1", 5);
        dueFault("hall 7;ring 1;hall 8", 12);
        dueFault("skill 9 9 99", 6);
        dueFault("x;y", 0);
        dueFault("ring 1;" + FOURTEEN, 5);
        dueFault("hall 9;did 8 8", 5);
    }

    private static void faultChangesNothing() {
        says("4: fault() tells, and changes nothing");
        DutiesHat x = new DutiesHat();
        x.lay(3);
        x.keep(0);
        Check.write(x, "hall 7;ring 0");
        due("fault()", x.fault(), NONE);
        due("fault() again", x.fault(), NONE);
        due("count(0)", x.count(0), 4);
        due("count(1)", x.count(1), 3);
        due("count(3)", x.count(3), 13);
        due("today(0)", x.today(0), 3);
        due("back(0)", x.back(0), 0);
        Check.write(x, ";x");
        due("fault() with more", x.fault(), 14);
        due("fault() with more, again", x.fault(), 14);
    }

    // ---- 5

    private static void hallOfNoText() {
        says("5: NOT: it has a FAULT");
        DutiesHat x = new DutiesHat();
        due("hall() of an empty text", x.hall(), NOT);
        for (String text : new String[] {" ", "ring", "ring 1", "ring 2;", "ring 2;x", FOURTEEN + ";ring 0"}) {
            x.erase();
            Check.write(x, text);
            due("hall() of '" + text + "'", x.hall(), NOT);
            due("count(3) behind it", x.count(3), text.length());
            due("count(1) behind it", x.count(1), 3);
        }
        x.erase();
        Check.write(x, "ring 2");
        due("hall() of 'ring 2'", x.hall(), 1);
        due("hall() again, it is empty then", x.hall(), NOT);
    }

    private static void hallOfLines() {
        says("5: it is empty then: how many there were");
        for (int lines = 1; lines <= 14; lines++) {
            DutiesHat x = new DutiesHat();
            Check.write(x, "ring 0" + ";ring 0".repeat(lines - 1));
            due("hall() of " + lines, x.hall(), lines);
            due("count(3)", x.count(3), 0);
            due("count(1)", x.count(1), 0);
        }
        DutiesHat x = new DutiesHat();
        Check.write(x, "ring 2" + blanks(194));
        due("hall() of 200 bytes", x.hall(), 1);
    }

    private static void hallInTheirOrder() {
        says("5: LINES are done in their order");
        DutiesHat x = Check.told("ring 0;ring 2");
        due("count(1)", x.count(1), 2);
        Check.tell(x, "ring 2;ring 0");
        due("count(1)", x.count(1), 0);
        Check.tell(x, "skill 3 3 0;skill 3 3 9;like 3 3 9;like 3 3 0");
        due("monk(3, 3, 0)", x.monk(3, 3, 0), 9);
        due("monk(3, 3, 1)", x.monk(3, 3, 1), 0);
        Check.tell(x, "did 3 0;did 3 3");
        due("has(3, 1)", x.has(3, 1), 3);
        Check.tell(x, "hall 2;hall 7");
        due("count(0)", x.count(0), 7);
        Check.tell(x, "hall 7;hall 2");
        due("count(0)", x.count(0), 2);
        // All LINES of 14 are done, the first and the last too.
        Check.tell(x, "hall 3;skill 0 0 1" + ";ring 0".repeat(11) + ";skill 2 2 8");
        due("monk(0, 0, 0)", x.monk(0, 0, 0), 1);
        due("monk(2, 2, 0)", x.monk(2, 2, 0), 8);
    }

    private static void hallAllAsAtFirst() {
        says("5: hall: N MONKS and DUTIES, all as at first");
        for (int n = 2; n <= 7; n++) {
            DutiesHat x = Check.told("hall 7;skill 1 1 0;like 1 1 9;tiring 1;holy 0;ring 0;did 1 0;did 0 1");
            Check.tell(x, "hall " + n);
            due("count(0)", x.count(0), n);
            due("count(1)", x.count(1), 3);
            due("monk(1, 1, 0)", x.monk(1, 1, 0), 5);
            due("monk(1, 1, 1)", x.monk(1, 1, 1), 5);
            due("as(1, 2)", x.as(1, 2), NOT);
            due("as(0, 3)", x.as(0, 3), NOT);
            due("as(0, 1)", x.as(0, 1), n);
            due("has(1, 1)", x.has(1, 1), NONE);
            due("has(0, 1)", x.has(0, 1), NONE);
            due("monk(n less 1, n less 1, 0)", x.monk(n - 1, n - 1, 0), 5);
            due("monk(n, 0, 0)", x.monk(n, 0, 0), UNKNOWN);
            due("monk(0, n, 0)", x.monk(0, n, 0), UNKNOWN);
        }
        // What a LINE tells ahead of hall is gone, what it tells behind it stays.
        DutiesHat x = Check.told("skill 0 0 1;ring 0;hall 4;skill 1 1 2");
        due("monk(0, 0, 0)", x.monk(0, 0, 0), 5);
        due("monk(1, 1, 0)", x.monk(1, 1, 0), 2);
        due("count(1)", x.count(1), 3);
        // Without hall it all stays.
        Check.tell(x, "ring 2;sweet 3");
        Check.tell(x, "like 0 0 1");
        due("monk(1, 1, 0) without hall", x.monk(1, 1, 0), 2);
        due("count(1) without hall", x.count(1), 2);
        due("as(3, 4) without hall", x.as(3, 4), 4);
    }

    private static void hallBehindTheLines() {
        says("5: behind them nothing is drawn TODAY, THE BOOK is empty, nothing is kept");
        for (String text : new String[] {"ring 3", "hall 4", "plain 0"}) {
            DutiesHat x = new DutiesHat();
            for (int d = 0; d < 16; d++) {
                x.lay(d);
                x.dawn();
            }
            x.lay(1);
            x.keep(0);
            x.keep(1);
            Check.tell(x, text);
            due(text + ": count(4)", x.count(4), 0);
            due(text + ": today(0)", x.today(0), NOT);
            due(text + ": has(0, 0)", x.has(0, 0), NONE);
            due(text + ": count(2)", x.count(2), 0);
            due(text + ": often(0, 0)", x.often(0, 0), 0);
            due(text + ": back(0)", x.back(0), NOT);
            due(text + ": back(1)", x.back(1), NOT);
            due(text + ": lay(0)", x.lay(0), 1);
            due(text + ": dawn()", x.dawn(), 1);
        }
    }

    private static void hallYesterdayAsTold() {
        says("5: YESTERDAY is as told (what was not told since hall: nothing)");
        DutiesHat x = Check.told("did 0 1;did 3 2");
        int[] told = {1, NONE, NONE, 2};
        dueYesterday("as told", x, told);
        x.lay(0);
        x.dawn();
        dueYesterday("behind a dawn", x, 0, 1, 2, 3);
        Check.tell(x, "ring 2");
        dueYesterday("as told ahead", x, told);
        Check.tell(x, "did 1 1");
        dueYesterday("one more", x, 1, 1, NONE, 2);
        Check.tell(x, "did 0 3;hall 4;did 2 2");
        dueYesterday("since hall", x, NONE, NONE, 2, NONE);
        Check.tell(x, "hall 4");
        dueYesterday("hall alone", x, NONE, NONE, NONE, NONE);
    }

    private static void dueYesterday(String when, DutiesHat x, int... did) {
        for (int m = 0; m < did.length; m++) {
            due(when + ": has(" + m + ", 1)", x.has(m, 1), did[m]);
        }
    }

    // ---- 6

    private static void monkAndDuty() {
        says("6: UNKNOWN (no such MONK, DUTY)");
        for (int n = 2; n <= 7; n++) {
            DutiesHat x = Check.told("hall " + n);
            for (int what = 0; what < 3; what++) {
                int known = what == 2 ? 1 : 5;
                due("of " + n + ": monk(0, 0, " + what + ")", x.monk(0, 0, what), known);
                due("of " + n + ": monk(n less 1, 0, " + what + ")", x.monk(n - 1, 0, what), known);
                due("of " + n + ": monk(0, n less 1, " + what + ")", x.monk(0, n - 1, what), known);
                due("of " + n + ": monk(n, 0, " + what + ")", x.monk(n, 0, what), UNKNOWN);
                due("of " + n + ": monk(0, n, " + what + ")", x.monk(0, n, what), UNKNOWN);
                due("of " + n + ": monk(-1, 0, " + what + ")", x.monk(-1, 0, what), UNKNOWN);
                due("of " + n + ": monk(0, -1, " + what + ")", x.monk(0, -1, what), UNKNOWN);
            }
        }
    }

    private static void monkWhat() {
        says("6: what 0, 1, 2");
        DutiesHat x = Check.told("skill 2 1 0;like 2 1 9;skill 1 2 9;like 1 2 0");
        int[][] due = {{OUTSIDE, 0, 9, 0, OUTSIDE}, {OUTSIDE, 9, 0, 1, OUTSIDE}};
        for (int what = -1; what <= 3; what++) {
            due("monk(2, 1, " + what + ")", x.monk(2, 1, what), due[0][what + 1]);
            due("monk(1, 2, " + what + ")", x.monk(1, 2, what), due[1][what + 1]);
        }
    }

    private static void monkMaySkill() {
        says("6: MAY do a DUTY if its SKILL at it is above 0");
        for (int v = 0; v <= 9; v++) {
            DutiesHat x = Check.told("skill 3 0 " + v + ";like 3 0 0");
            due("monk(3, 0, 2) by skill " + v, x.monk(3, 0, 2), v > 0 ? 1 : 0);
            due("monk(3, 0, 0)", x.monk(3, 0, 0), v);
            due("monk(0, 3, 2), another", x.monk(0, 3, 2), 1);
        }
    }

    private static void monkMayTiring() {
        says("6: a TIRING one not behind one that is TIRING");
        String kinds = "hall 6;plain 0;tiring 1;tiring 2;holy 3;sweet 4;";
        for (int did = 0; did < 6; did++) {
            DutiesHat x = Check.told(kinds + "did 5 " + did);
            int tired = did == 1 || did == 2 ? 0 : 1;
            due("tiring 1 behind " + did, x.monk(5, 1, 2), tired);
            due("tiring 2 behind " + did, x.monk(5, 2, 2), tired);
            due("tiring 1, of another", x.monk(4, 1, 2), 1);
            due("plain 0 behind " + did, x.monk(5, 0, 2), 1);
        }
        DutiesHat x = Check.told("hall 6;tiring 1");
        due("tiring 1 behind nothing", x.monk(5, 1, 2), 1);
        Check.tell(x, "did 5 1;skill 5 0 0");
        due("0 without skill, behind tiring", x.monk(5, 0, 2), 0);
    }

    private static void monkMayHoly() {
        says("6: a HOLY one not behind the same one");
        String kinds = "hall 6;plain 0;tiring 1;holy 2;holy 3;sweet 4;";
        for (int did = 0; did < 6; did++) {
            DutiesHat x = Check.told(kinds + "did 5 " + did);
            due("holy 2 behind " + did, x.monk(5, 2, 2), did == 2 ? 0 : 1);
            due("holy 3 behind " + did, x.monk(5, 3, 2), did == 3 ? 0 : 1);
            due("holy 2, of another", x.monk(4, 2, 2), 1);
        }
        DutiesHat x = Check.told("hall 6;holy 2");
        due("holy 2 behind nothing", x.monk(5, 2, 2), 1);
    }

    private static void monkMayPlainAndSweet() {
        says("6: SWEET is HOLY as to kinds alone");
        DutiesHat x = Check.told("hall 3;sweet 0;did 0 0;did 1 1;tiring 2;did 2 2");
        due("sweet behind the same one", x.monk(0, 0, 2), 1);
        due("plain behind the same one", x.monk(1, 1, 2), 1);
        due("tiring behind the same one", x.monk(2, 2, 2), 0);
        due("sweet behind a tiring one", x.monk(2, 0, 2), 1);
        Check.tell(x, "holy 0");
        due("holy behind the same one", x.monk(0, 0, 2), 0);
    }

    // ---- 7

    private static void asKinds() {
        says("7: KINDS (0 .. 4) are over one another; NOT: it is none such");
        DutiesHat x = Check.told("hall 4;plain 0;tiring 1;holy 2;sweet 3");
        int[][] due = {
            {OUTSIDE, 4, 4, NOT, NOT, NOT, OUTSIDE},
            {OUTSIDE, 4, 4, 4, NOT, NOT, OUTSIDE},
            {OUTSIDE, 4, NOT, NOT, 4, NOT, OUTSIDE},
            {OUTSIDE, 4, NOT, NOT, 4, 4, OUTSIDE}};
        for (int d = 0; d < 4; d++) {
            for (int kind = -1; kind <= 5; kind++) {
                due("as(" + d + ", " + kind + ")", x.as(d, kind), due[d][kind + 1]);
            }
        }
        says("7: UNKNOWN");
        for (int n = 2; n <= 7; n++) {
            Check.tell(x, "hall " + n);
            due("of " + n + ": as(n less 1, 0)", x.as(n - 1, 0), n);
            due("of " + n + ": as(n, 0)", x.as(n, 0), UNKNOWN);
            due("of " + n + ": as(0, 0)", x.as(0, 0), n);
            due("of " + n + ": as(-1, 0)", x.as(-1, 0), UNKNOWN);
        }
    }

    private static void asHowMany() {
        says("7: how many MONKS MAY do it");
        String text = "hall 7;holy 6";
        for (int able = 7; able >= 0; able--) {
            DutiesHat x = Check.told(text);
            due("as(6, 3), " + able + " are able", x.as(6, 3), able);
            due("as(6, 0), " + able + " are able", x.as(6, 0), able);
            text = text + ";skill " + (7 - able) % 7 + " 6 0";
        }
        DutiesHat x = Check.told("hall 3;tiring 0;tiring 1;holy 2;did 0 1;did 1 2;did 2 0");
        due("as(0, 2)", x.as(0, 2), 1);
        due("as(1, 2)", x.as(1, 2), 1);
        due("as(2, 3)", x.as(2, 3), 2);
        x.lay(1);
        due("today(0): 0 has 0, which none of the others may do", x.today(0), NOT);
    }
}
