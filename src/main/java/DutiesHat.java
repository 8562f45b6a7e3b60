/** Duties drawn from a hat at dawn, traded by rings, and foretold; ../shared/DOC.md says what each call promises. */
public final class DutiesHat {
    public static final int NONE = -1, UNKNOWN = -2, OUTSIDE = -3, NOT = -4, FULL = -5;

    private static final int LEAST_MONKS = 2;
    private static final int MOST_MONKS = 7;
    private static final int FIRST_MONKS = 4;
    private static final int FIRST_RING = 3;
    private static final int FIRST_VALUE = 5;
    private static final int MOST_VALUE = 9;

    private static final int MOST_DRAWS = 5040;
    private static final int MOST_TRADES = 70;
    private static final int MOST_DAWNS = 16;
    private static final int MOST_KEPT = 2;

    private static final int MOST_SEED = 9999;
    private static final int MOST_TRIES = 50;
    private static final int SEED_FACTOR = 16807;
    private static final int SEED_MODULUS = 65521;

    private static final int WEEK_MONKS = 5;
    private static final int WEEK_DRAWS = 120;
    private static final int WEEK_DAWNS = 7;

    private static final int MOST_BYTES = 200;
    private static final int MOST_LINES = 14;
    private static final int LINE_SIZE = 4;
    private static final int BLANK = 32;
    private static final int LINE_END = 59;

    private static final int KIND_DUTY = 0;
    private static final int KIND_PLAIN = 1;
    private static final int KIND_TIRING = 2;
    private static final int KIND_HOLY = 3;
    private static final int KIND_SWEET = 4;
    private static final int KINDS = 5;
    /** The kind that is right over each kind. */
    private static final int[] OVER = {NONE, KIND_DUTY, KIND_PLAIN, KIND_DUTY, KIND_HOLY};

    /* The verbs 1 .. 4 are the kinds that they tell, so that a duty's kind is the verb itself. */
    private static final int VERB_HALL = 0;
    private static final int VERB_SKILL = 5;
    private static final int VERB_LIKE = 6;
    private static final int VERB_RING = 7;
    private static final int VERB_DID = 8;

    private static final int[] FACTORIALS = {1, 1, 2, 6, 24, 120, 720, 5040};

    private final Scroll scroll = new Scroll();
    private final House house = new House();
    private final Days days = new Days();
    private final Days[] images = {new Days(), new Days()};
    private final boolean[] imaged = new boolean[MOST_KEPT];
    private final Rings rings = new Rings(house);
    /** For rings of none, of two, of three. */
    private final Tally[] tallies = {new Tally(rings, 0), new Tally(rings, 2), new Tally(rings, 3)};
    private final Search search = new Search(rings);
    private final Plan plan = new Plan(house);
    private final int[] lots = new int[MOST_MONKS];

    public DutiesHat() {
        house.open(FIRST_MONKS);
        days.begin(house.told);
        rings.look(days.yesterday);
    }

    // ---- what is told

    public int write(long bytes, int n) {
        if (n < 1 || n > 8) {
            return OUTSIDE;
        }
        if (scroll.length + n > MOST_BYTES) {
            return FULL;
        }
        for (int i = 0; i < n; i++) {
            scroll.add((int) (bytes >> 8 * i & 255));
        }
        return scroll.length;
    }

    public int erase() {
        int had = scroll.length;
        scroll.length = 0;
        return had;
    }

    public int fault() {
        return scroll.read(house.monks);
    }

    public int hall() {
        if (scroll.read(house.monks) != NONE) {
            return NOT;
        }
        for (int line = 0; line < scroll.lineCount; line++) {
            house.obey(scroll.lines, line * LINE_SIZE);
        }
        scroll.length = 0;
        days.begin(house.told);
        for (int k = 0; k < MOST_KEPT; k++) {
            imaged[k] = false;
        }
        yesterdayChanged();
        return scroll.lineCount;
    }

    public int monk(int monk, int duty, int what) {
        if (!isThere(monk) || !isThere(duty)) {
            return UNKNOWN;
        }
        switch (what) {
            case 0:
                return house.skillOf(monk, duty);
            case 1:
                return house.likingOf(monk, duty);
            case 2:
                return rings.mayDo(monk, duty) ? 1 : 0;
            default:
                return OUTSIDE;
        }
    }

    public int as(int duty, int kind) {
        if (!isThere(duty)) {
            return UNKNOWN;
        }
        if (kind < 0 || kind >= KINDS) {
            return OUTSIDE;
        }
        if (!house.isA(duty, kind)) {
            return NOT;
        }
        int able = 0;
        for (int monk = 0; monk < house.monks; monk++) {
            if (rings.mayDo(monk, duty)) {
                able++;
            }
        }
        return able;
    }

    // ---- a dawn

    public int lay(int number) {
        if (number < 0 || number >= FACTORIALS[house.monks]) {
            return OUTSIDE;
        }
        Lots.fill(lots, house.monks, number);
        if (!rings.allMayDo(lots)) {
            return NOT;
        }
        days.give(lots);
        return 1;
    }

    public int draw(int z) {
        if (z < 1 || z > MOST_SEED) {
            return OUTSIDE;
        }
        int x = z;
        for (int tries = 1; tries <= MOST_TRIES; tries++) {
            x = Lots.mix(lots, house.monks, x);
            if (rings.allMayDo(lots)) {
                days.give(lots);
                return tries;
            }
        }
        return NOT;
    }

    public int has(int monk, int what) {
        if (!isThere(monk)) {
            return UNKNOWN;
        }
        if (what < 0 || what > 1) {
            return OUTSIDE;
        }
        if (what == 1) {
            return days.yesterday[monk];
        }
        return days.drawn ? days.today[monk] : NONE;
    }

    public int trade(int a, int b, int c) {
        if (!isThere(a) || !isThere(b) || house.ring == 3 && !isThere(c)) {
            return UNKNOWN;
        }
        if (house.ring != 3 && c != NONE || a == b || a == c || b == c) {
            return OUTSIDE;
        }
        if (!days.drawn || house.ring == 0 || !rings.isWanted(days.today, a, b, c)) {
            return NOT;
        }
        Rings.pass(days.today, a, b, c);
        return house.gladnessOf(days.today);
    }

    public int settle() {
        if (!days.drawn) {
            return NOT;
        }
        return rings.passAll(days.today, house.ring);
    }

    public int dawn() {
        if (!days.drawn) {
            return NOT;
        }
        if (days.dawns >= MOST_DAWNS) {
            return FULL;
        }
        days.end();
        yesterdayChanged();
        return days.dawns;
    }

    public int today(int what) {
        if (what < 0 || what > 2) {
            return OUTSIDE;
        }
        if (!days.drawn) {
            return NOT;
        }
        switch (what) {
            case 0:
                return Lots.numberOf(days.today, house.monks);
            case 1:
                return house.workOf(days.today);
            default:
                return house.gladnessOf(days.today);
        }
    }

    // ---- foretold

    public int ends(int what) {
        if (what < 0 || what > 2) {
            return OUTSIDE;
        }
        if (!days.drawn) {
            return NOT;
        }
        search.from(days.today, house.ring);
        switch (what) {
            case 0:
                return search.howMany;
            case 1:
                return search.gladness;
            default:
                return search.number;
        }
    }

    public int hint(int monk) {
        if (!isThere(monk)) {
            return UNKNOWN;
        }
        if (!days.drawn) {
            return NOT;
        }
        return rings.bestFor(monk, days.today, house.ring);
    }

    public int lawful() {
        return tallyOf(0).draws;
    }

    public int mean(int ring, int what, int part) {
        if (!isRing(ring) || what < 0 || what > 1 || !isPart(part)) {
            return OUTSIDE;
        }
        Tally tally = tallyOf(ring);
        if (tally.draws == 0) {
            return NOT;
        }
        return (int) Chance.lowest(what == 0 ? tally.work : tally.gladness, tally.draws, part);
    }

    public int odds(int monk, int duty, int ring, int part) {
        if (!isThere(monk) || !isThere(duty)) {
            return UNKNOWN;
        }
        if (!isRing(ring) || !isPart(part)) {
            return OUTSIDE;
        }
        Tally tally = tallyOf(ring);
        if (tally.draws == 0) {
            return NOT;
        }
        return (int) Chance.lowest(tally.had[House.cell(monk, duty)], tally.draws, part);
    }

    public int week(int w) {
        if (w < 1 || w > WEEK_DAWNS) {
            return OUTSIDE;
        }
        if (house.monks > WEEK_MONKS) {
            return NOT;
        }
        return plan.greatest(days.yesterday, w);
    }

    // ---- the book

    public int often(int monk, int duty) {
        if (!isThere(monk) || !isThere(duty)) {
            return UNKNOWN;
        }
        return days.timesOf(monk, duty);
    }

    public long tail(int monk, int duty, int part) {
        if (!isThere(monk) || !isThere(duty)) {
            return UNKNOWN;
        }
        if (!isPart(part)) {
            return OUTSIDE;
        }
        long above = Chance.waysOf(days.timesOf(monk, duty), days.dawns, house.monks);
        return Chance.lowest(above, Chance.power(house.monks, days.dawns), part);
    }

    public int named(int q) {
        if (q < 0 || q > 1000) {
            return OUTSIDE;
        }
        long below = Chance.power(house.monks, days.dawns);
        for (int monk = 0; monk < house.monks; monk++) {
            for (int duty = 0; duty < house.monks; duty++) {
                long above = Chance.waysOf(days.timesOf(monk, duty), days.dawns, house.monks);
                if (1000 * above < q * below) {
                    return 10 * monk + duty;
                }
            }
        }
        return NONE;
    }

    public int keep(int k) {
        if (k < 0 || k >= MOST_KEPT) {
            return UNKNOWN;
        }
        images[k].copy(days);
        imaged[k] = true;
        return days.dawns;
    }

    public int back(int k) {
        if (k < 0 || k >= MOST_KEPT) {
            return UNKNOWN;
        }
        if (!imaged[k]) {
            return NOT;
        }
        days.copy(images[k]);
        yesterdayChanged();
        return days.dawns;
    }

    public int count(int what) {
        switch (what) {
            case 0:
                return house.monks;
            case 1:
                return house.ring;
            case 2:
                return days.dawns;
            case 3:
                return scroll.length;
            case 4:
                return days.drawn ? 1 : 0;
            default:
                return OUTSIDE;
        }
    }

    /** Monks and duties are as many, so one test does for both. */
    private boolean isThere(int monkOrDuty) {
        return monkOrDuty >= 0 && monkOrDuty < house.monks;
    }

    private static boolean isRing(int ring) {
        return ring == 0 || ring == 2 || ring == 3;
    }

    private static boolean isPart(int part) {
        return part == 0 || part == 1;
    }

    private void yesterdayChanged() {
        rings.look(days.yesterday);
        for (int i = 0; i < tallies.length; i++) {
            tallies[i].fresh = false;
        }
    }

    /** The sums over all lawful draws: made once for as long as YESTERDAY and what is told stay. */
    private Tally tallyOf(int ring) {
        Tally tally = tallies[ring == 0 ? 0 : ring == 2 ? 1 : 2];
        if (!tally.fresh) {
            tally.make();
        }
        return tally;
    }

    /** THE TEXT, and its lines as read. */
    private static final class Scroll {
        final int[] bytes = new int[MOST_BYTES];
        int length;
        /** Of each line its verb and up to three numbers. */
        final int[] lines = new int[MOST_LINES * LINE_SIZE];
        int lineCount;
        private int tokenStart;
        private int tokenEnd;

        void add(int value) {
            if (length < MOST_BYTES) {
                bytes[length] = value;
                length++;
            }
        }

        /** The place of the FAULT, or NONE: then the lines are as the text tells them. */
        int read(int monksAtFirst) {
            int monks = monksAtFirst;
            tokenEnd = 0;
            lineCount = 0;
            for (int line = 0; line < MOST_LINES; line++) {
                if (!readLine(line * LINE_SIZE, monks)) {
                    return tokenStart;
                }
                lineCount = line + 1;
                if (lines[line * LINE_SIZE] == VERB_HALL) {
                    monks = lines[line * LINE_SIZE + 1];
                }
                nextToken();
                if (tokenStart >= length) {
                    return NONE;
                }
                if (bytes[tokenStart] != LINE_END) {
                    return tokenStart;
                }
            }
            // Behind the last line that there may be, the ; itself cannot stand.
            return tokenStart;
        }

        private boolean readLine(int at, int monks) {
            nextToken();
            int verb = verbHere();
            if (verb == NONE) {
                return false;
            }
            lines[at] = verb;
            int numbers = numbersOf(verb);
            for (int i = 1; i <= numbers; i++) {
                nextToken();
                int value = numberHere();
                if (!fits(verb, i, value, monks)) {
                    return false;
                }
                lines[at + i] = value;
            }
            return true;
        }

        /** At the end of the text the token is empty and begins at the length. */
        private void nextToken() {
            int place = tokenEnd;
            while (place < length && bytes[place] == BLANK) {
                place++;
            }
            tokenStart = place;
            if (place < length && isLetter(bytes[place])) {
                while (place < length && isLetter(bytes[place])) {
                    place++;
                }
            } else if (place < length && isDigit(bytes[place])) {
                while (place < length && isDigit(bytes[place])) {
                    place++;
                }
            } else if (place < length) {
                place++;
            }
            tokenEnd = place;
        }

        private static boolean isLetter(int value) {
            return value >= 'a' && value <= 'z';
        }

        private static boolean isDigit(int value) {
            return value >= '0' && value <= '9';
        }

        private int verbHere() {
            if (spells("hall")) {
                return VERB_HALL;
            }
            if (spells("skill")) {
                return VERB_SKILL;
            }
            if (spells("like")) {
                return VERB_LIKE;
            }
            if (spells("plain")) {
                return KIND_PLAIN;
            }
            if (spells("tiring")) {
                return KIND_TIRING;
            }
            if (spells("holy")) {
                return KIND_HOLY;
            }
            if (spells("sweet")) {
                return KIND_SWEET;
            }
            if (spells("ring")) {
                return VERB_RING;
            }
            return spells("did") ? VERB_DID : NONE;
        }

        private boolean spells(String word) {
            if (tokenEnd - tokenStart != word.length()) {
                return false;
            }
            for (int i = 0; i < word.length(); i++) {
                if (bytes[tokenStart + i] != word.charAt(i)) {
                    return false;
                }
            }
            return true;
        }

        /** The token's value, or NONE if it is no number of one or two digits. */
        private int numberHere() {
            int digits = tokenEnd - tokenStart;
            if (digits < 1 || digits > 2 || !isDigit(bytes[tokenStart])) {
                return NONE;
            }
            int value = 0;
            for (int i = tokenStart; i < tokenEnd; i++) {
                value = 10 * value + bytes[i] - '0';
            }
            return value;
        }

        private static int numbersOf(int verb) {
            switch (verb) {
                case VERB_SKILL:
                case VERB_LIKE:
                    return 3;
                case VERB_DID:
                    return 2;
                default:
                    return 1;
            }
        }

        /** Whether a value can stand as the i-th number (from 1) behind a verb. */
        private static boolean fits(int verb, int i, int value, int monks) {
            if (verb == VERB_HALL) {
                return value >= LEAST_MONKS && value <= MOST_MONKS;
            }
            if (verb == VERB_RING) {
                return isRing(value);
            }
            if (i == 3) {
                return value >= 0 && value <= MOST_VALUE;
            }
            return value >= 0 && value < monks;
        }
    }

    /** What is told of monks and duties. */
    private static final class House {
        int monks;
        int ring;
        private final int[] skills = new int[MOST_MONKS * MOST_MONKS];
        private final int[] likings = new int[MOST_MONKS * MOST_MONKS];
        private final int[] kinds = new int[MOST_MONKS];
        /** What each did YESTERDAY as told since hall: dawns do not touch it. */
        final int[] told = new int[MOST_MONKS];

        static int cell(int monk, int duty) {
            return monk * MOST_MONKS + duty;
        }

        void open(int newMonks) {
            monks = newMonks;
            ring = FIRST_RING;
            for (int i = 0; i < skills.length; i++) {
                skills[i] = FIRST_VALUE;
                likings[i] = FIRST_VALUE;
            }
            for (int i = 0; i < MOST_MONKS; i++) {
                kinds[i] = KIND_PLAIN;
                told[i] = NONE;
            }
        }

        /** Does the line that stands at a place; Scroll.read has seen that its numbers fit. */
        void obey(int[] lines, int at) {
            int verb = lines[at];
            int first = lines[at + 1];
            switch (verb) {
                case VERB_HALL:
                    open(first);
                    break;
                case VERB_SKILL:
                    skills[cell(first, lines[at + 2])] = lines[at + 3];
                    break;
                case VERB_LIKE:
                    likings[cell(first, lines[at + 2])] = lines[at + 3];
                    break;
                case VERB_RING:
                    ring = first;
                    break;
                case VERB_DID:
                    told[first] = lines[at + 2];
                    break;
                default:
                    kinds[first] = verb;
                    break;
            }
        }

        int skillOf(int monk, int duty) {
            return skills[cell(monk, duty)];
        }

        /** The place is that of cell, which would be a ninth call behind mean, odds and lawful: eight are let. */
        int likingOf(int monk, int duty) {
            return likings[monk * MOST_MONKS + duty];
        }

        boolean isA(int duty, int kind) {
            int over = kinds[duty];
            for (int i = 0; i < KINDS && over != NONE; i++) {
                if (over == kind) {
                    return true;
                }
                over = OVER[over];
            }
            return false;
        }

        /** Whether a duty may come behind another, or behind none. SWEET is no bar: it is HOLY as to kinds alone. */
        boolean mayFollow(int duty, int before) {
            if (before < 0 || before >= monks) {
                return true;
            }
            if (kinds[duty] == KIND_TIRING) {
                return kinds[before] != KIND_TIRING;
            }
            return kinds[duty] != KIND_HOLY || before != duty;
        }

        int workOf(int[] row) {
            int sum = 0;
            for (int monk = 0; monk < monks; monk++) {
                sum += skillOf(monk, row[monk]);
            }
            return sum;
        }

        int gladnessOf(int[] row) {
            int sum = 0;
            for (int monk = 0; monk < monks; monk++) {
                sum += likingOf(monk, row[monk]);
            }
            return sum;
        }
    }

    /** TODAY, YESTERDAY and THE BOOK: what is kept and brought back. */
    private static final class Days {
        boolean drawn;
        final int[] today = new int[MOST_MONKS];
        final int[] yesterday = new int[MOST_MONKS];
        int dawns;
        private final int[] book = new int[MOST_DAWNS * MOST_MONKS];

        void begin(int[] told) {
            drawn = false;
            dawns = 0;
            System.arraycopy(told, 0, yesterday, 0, MOST_MONKS);
        }

        void give(int[] row) {
            System.arraycopy(row, 0, today, 0, MOST_MONKS);
            drawn = true;
        }

        /** Only for a book that is not full. */
        void end() {
            if (dawns < MOST_DAWNS) {
                System.arraycopy(today, 0, book, dawns * MOST_MONKS, MOST_MONKS);
                System.arraycopy(today, 0, yesterday, 0, MOST_MONKS);
                dawns++;
                drawn = false;
            }
        }

        int timesOf(int monk, int duty) {
            int times = 0;
            for (int i = 0; i < dawns; i++) {
                if (book[i * MOST_MONKS + monk] == duty) {
                    times++;
                }
            }
            return times;
        }

        void copy(Days other) {
            drawn = other.drawn;
            dawns = other.dawns;
            System.arraycopy(other.today, 0, today, 0, MOST_MONKS);
            System.arraycopy(other.yesterday, 0, yesterday, 0, MOST_MONKS);
            System.arraycopy(other.book, 0, book, 0, book.length);
        }
    }

    /** Rows of duties and their numbers. */
    private static final class Lots {
        /** The row of a number 0 .. monks! less 1. */
        static void fill(int[] row, int monks, int number) {
            int left = number;
            int taken = 0;
            for (int monk = 0; monk < monks; monk++) {
                int rowsEach = FACTORIALS[monks - 1 - monk];
                boolean found = false;
                for (int duty = 0; duty < monks && !found; duty++) {
                    if ((taken >> duty & 1) == 1) {
                        continue;
                    }
                    found = left < rowsEach;
                    if (found) {
                        row[monk] = duty;
                        taken |= 1 << duty;
                    } else {
                        left -= rowsEach;
                    }
                }
            }
        }

        static int numberOf(int[] row, int monks) {
            int number = 0;
            int taken = 0;
            for (int monk = 0; monk < monks; monk++) {
                int lesser = (1 << row[monk]) - 1;
                number += Integer.bitCount(lesser & ~taken) * FACTORIALS[monks - 1 - monk];
                taken |= 1 << row[monk];
            }
            return number;
        }

        /** Mixes the row 0 .. monks less 1 by x: what x has become. */
        static int mix(int[] row, int monks, int x) {
            int next = x;
            for (int i = 0; i < monks; i++) {
                row[i] = i;
            }
            for (int i = monks - 1; i >= 1; i--) {
                next = SEED_FACTOR * next % SEED_MODULUS;
                int other = next % (i + 1);
                int held = row[i];
                row[i] = row[other];
                row[other] = held;
            }
            return next;
        }
    }

    /** Who MAY do what this day, and the trades that are WANTED. */
    private static final class Rings {
        final House house;
        /** Of each monk a bit for each duty that it MAY do. */
        private final int[] may = new int[MOST_MONKS];
        /** The trades last found, each as its three monks; the third is NONE in a ring of two. */
        final int[] found = new int[MOST_TRADES * 3];
        int foundCount;

        Rings(House house) {
            this.house = house;
        }

        void look(int[] yesterday) {
            for (int monk = 0; monk < house.monks; monk++) {
                int duties = 0;
                for (int duty = 0; duty < house.monks; duty++) {
                    if (house.skillOf(monk, duty) > 0 && house.mayFollow(duty, yesterday[monk])) {
                        duties |= 1 << duty;
                    }
                }
                may[monk] = duties;
            }
        }

        boolean mayDo(int monk, int duty) {
            return (may[monk] >> duty & 1) == 1;
        }

        boolean allMayDo(int[] row) {
            for (int monk = 0; monk < house.monks; monk++) {
                if (!mayDo(monk, row[monk])) {
                    return false;
                }
            }
            return true;
        }

        /** Whether a monk gains by what another has. */
        private boolean wants(int[] row, int monk, int other) {
            return mayDo(monk, row[other])
                    && house.likingOf(monk, row[other]) > house.likingOf(monk, row[monk]);
        }

        /** Of two monks if c is NONE, of three else. */
        boolean isWanted(int[] row, int a, int b, int c) {
            if (c == NONE) {
                return wants(row, a, b) && wants(row, b, a);
            }
            return wants(row, a, b) && wants(row, b, c) && wants(row, c, a);
        }

        static void pass(int[] row, int a, int b, int c) {
            int first = row[a];
            row[a] = row[b];
            if (c == NONE) {
                row[b] = first;
            } else {
                row[b] = row[c];
                row[c] = first;
            }
        }

        /** Finds the WANTED trades in their order, but no more than asked for. */
        void find(int[] row, int ring, int most) {
            foundCount = 0;
            if (ring == 0) {
                return;
            }
            for (int a = 0; a < house.monks; a++) {
                for (int b = a + 1; b < house.monks; b++) {
                    if (foundCount < most && wants(row, a, b)) {
                        findThird(row, ring, a, b, most);
                    }
                }
            }
        }

        private void findThird(int[] row, int ring, int a, int b, int most) {
            if (ring == 2) {
                if (wants(row, b, a)) {
                    note(a, b, NONE);
                }
                return;
            }
            for (int c = a + 1; c < house.monks && foundCount < most; c++) {
                if (c != b && wants(row, b, c) && wants(row, c, a)) {
                    note(a, b, c);
                }
            }
        }

        private void note(int a, int b, int c) {
            if (foundCount < MOST_TRADES) {
                found[foundCount * 3] = a;
                found[foundCount * 3 + 1] = b;
                found[foundCount * 3 + 2] = c;
                foundCount++;
            }
        }

        void passFound(int[] row, int i) {
            pass(row, found[i * 3], found[i * 3 + 1], found[i * 3 + 2]);
        }

        /** SETTLED: how many trades. Each raises GLADNESS, so there are never more than it can be. */
        int passAll(int[] row, int ring) {
            for (int made = 0; made < MOST_MONKS * MOST_VALUE; made++) {
                find(row, ring, 1);
                if (foundCount == 0) {
                    return made;
                }
                passFound(row, 0);
            }
            return MOST_MONKS * MOST_VALUE;
        }

        /** HINT: the duty, or NONE. */
        int bestFor(int monk, int[] row, int ring) {
            int best = NONE;
            find(row, ring, MOST_TRADES);
            for (int i = 0; i < foundCount; i++) {
                int giver = giverTo(monk, i);
                if (giver != NONE && isBetter(monk, row[giver], best)) {
                    best = row[giver];
                }
            }
            return best;
        }

        private boolean isBetter(int monk, int duty, int best) {
            if (best == NONE) {
                return true;
            }
            int more = house.likingOf(monk, duty) - house.likingOf(monk, best);
            return more > 0 || more == 0 && duty < best;
        }

        /** The monk of whom another has its duty by a found trade, or NONE. */
        private int giverTo(int monk, int i) {
            int a = found[i * 3];
            int b = found[i * 3 + 1];
            int c = found[i * 3 + 2];
            if (monk == a) {
                return b;
            }
            if (monk == b) {
                return c == NONE ? a : c;
            }
            return monk == c ? a : NONE;
        }
    }

    /** Sums over all lawful draws, each settled by one ring. */
    private static final class Tally {
        private final Rings rings;
        private final int ring;
        private final int[] row = new int[MOST_MONKS];
        boolean fresh;
        int draws;
        int work;
        int gladness;
        final int[] had = new int[MOST_MONKS * MOST_MONKS];

        Tally(Rings rings, int ring) {
            this.rings = rings;
            this.ring = ring;
        }

        void make() {
            draws = 0;
            work = 0;
            gladness = 0;
            for (int i = 0; i < had.length; i++) {
                had[i] = 0;
            }
            int monks = rings.house.monks;
            for (int number = 0; number < FACTORIALS[monks]; number++) {
                Lots.fill(row, monks, number);
                if (rings.allMayDo(row)) {
                    rings.passAll(row, ring);
                    addRow(monks);
                }
            }
            fresh = true;
        }

        private void addRow(int monks) {
            draws++;
            work += rings.house.workOf(row);
            gladness += rings.house.gladnessOf(row);
            for (int monk = 0; monk < monks; monk++) {
                had[House.cell(monk, row[monk])]++;
            }
        }
    }

    /** All ENDS to which wanted trades come. */
    private static final class Search {
        private static final int WORDS = MOST_DRAWS / 64 + 1;
        private final Rings rings;
        private final int[] row = new int[MOST_MONKS];
        private final int[] next = new int[MOST_MONKS];
        /** A bit for each draw that was come to, and for each of those that waits to be looked at. */
        private final long[] seen = new long[WORDS];
        private final long[] waiting = new long[WORDS];
        int howMany;
        int gladness;
        int number;

        Search(Rings rings) {
            this.rings = rings;
        }

        void from(int[] today, int ring) {
            howMany = 0;
            gladness = NONE;
            number = NONE;
            for (int word = 0; word < WORDS; word++) {
                seen[word] = 0;
                waiting[word] = 0;
            }
            reach(Lots.numberOf(today, rings.house.monks));
            for (int looks = 0; looks < MOST_DRAWS; looks++) {
                int draw = takeWaiting();
                if (draw == NONE) {
                    return;
                }
                lookAt(draw, ring);
            }
        }

        private void reach(int draw) {
            long bit = 1L << (draw & 63);
            if ((seen[draw >> 6] & bit) == 0) {
                seen[draw >> 6] |= bit;
                waiting[draw >> 6] |= bit;
            }
        }

        private int takeWaiting() {
            for (int word = 0; word < WORDS; word++) {
                if (waiting[word] != 0) {
                    int draw = word * 64 + Long.numberOfTrailingZeros(waiting[word]);
                    waiting[word] &= waiting[word] - 1;
                    return draw;
                }
            }
            return NONE;
        }

        private void lookAt(int draw, int ring) {
            int monks = rings.house.monks;
            Lots.fill(row, monks, draw);
            rings.find(row, ring, MOST_TRADES);
            if (rings.foundCount == 0) {
                addEnd(draw);
            }
            for (int i = 0; i < rings.foundCount; i++) {
                System.arraycopy(row, 0, next, 0, MOST_MONKS);
                rings.passFound(next, i);
                reach(Lots.numberOf(next, monks));
            }
        }

        private void addEnd(int draw) {
            int glad = rings.house.gladnessOf(row);
            howMany++;
            if (glad > gladness || glad == gladness && draw < number) {
                gladness = glad;
                number = draw;
            }
        }
    }

    /** The greatest work of a week, found day by day over all draws. */
    private static final class Plan {
        private final House house;
        private final int[] row = new int[MOST_MONKS];
        private final int[] rows = new int[WEEK_DRAWS * WEEK_MONKS];
        /** Of each draw its work, NONE if one of the monks can not do what it has. */
        private final int[] works = new int[WEEK_DRAWS];
        /** The greatest work of all days so far that end with a draw; NONE. */
        private int[] best = new int[WEEK_DRAWS];
        private int[] next = new int[WEEK_DRAWS];

        Plan(House house) {
            this.house = house;
        }

        /** Only for a house of five monks at most. */
        int greatest(int[] yesterday, int dawns) {
            if (house.monks > WEEK_MONKS) {
                return NONE;
            }
            int draws = FACTORIALS[house.monks];
            layRows(draws);
            for (int draw = 0; draw < draws; draw++) {
                best[draw] = mayComeBehind(yesterday, 0, draw) ? works[draw] : NONE;
            }
            for (int day = 1; day < dawns; day++) {
                addDay(draws);
            }
            int greatest = NONE;
            for (int draw = 0; draw < draws; draw++) {
                greatest = Math.max(greatest, best[draw]);
            }
            return greatest;
        }

        private void layRows(int draws) {
            for (int draw = 0; draw < draws; draw++) {
                Lots.fill(row, house.monks, draw);
                boolean able = true;
                for (int monk = 0; monk < house.monks; monk++) {
                    rows[draw * WEEK_MONKS + monk] = row[monk];
                    able = able && house.skillOf(monk, row[monk]) > 0;
                }
                works[draw] = able ? house.workOf(row) : NONE;
            }
        }

        private void addDay(int draws) {
            for (int draw = 0; draw < draws; draw++) {
                int ahead = works[draw] == NONE ? NONE : bestAhead(draws, draw);
                next[draw] = ahead == NONE ? NONE : ahead + works[draw];
            }
            int[] held = best;
            best = next;
            next = held;
        }

        private int bestAhead(int draws, int draw) {
            int ahead = NONE;
            for (int before = 0; before < draws; before++) {
                if (best[before] > ahead && mayComeBehind(rows, before * WEEK_MONKS, draw)) {
                    ahead = best[before];
                }
            }
            return ahead;
        }

        private boolean mayComeBehind(int[] done, int at, int draw) {
            for (int monk = 0; monk < house.monks; monk++) {
                if (!house.mayFollow(rows[draw * WEEK_MONKS + monk], done[at + monk])) {
                    return false;
                }
            }
            return true;
        }
    }

    /** Fractions, and the ways in which lots fall. */
    private static final class Chance {
        /** A part of above / below in lowest terms. */
        static long lowest(long above, long below, int part) {
            long divisor = above;
            long rest = below;
            // Euclid's steps on longs are fewer than a hundred.
            for (int i = 0; i < 100 && rest != 0; i++) {
                long left = divisor % rest;
                divisor = rest;
                rest = left;
            }
            if (divisor < 1) {
                return part == 0 ? above : below;
            }
            return (part == 0 ? above : below) / divisor;
        }

        static long power(long base, int times) {
            long product = 1;
            for (int i = 0; i < times; i++) {
                product *= base;
            }
            return product;
        }

        /** In how many of monks ^ dawns ways one lot falls least times or more; 7 ^ 16 is far within a long. */
        static long waysOf(int least, int dawns, int monks) {
            long ways = 0;
            long choices = 1;
            for (int times = 0; times <= dawns; times++) {
                if (times >= least) {
                    ways += choices * power(monks - 1, dawns - times);
                }
                choices = choices * (dawns - times) / (times + 1);
            }
            return ways;
        }
    }
}
