import java.math.BigInteger;
import java.util.ArrayList;
import java.util.Arrays;
import java.util.HashMap;
import java.util.LinkedHashMap;
import java.util.List;
import java.util.Map;
import java.util.TreeSet;
import java.util.regex.Matcher;
import java.util.regex.Pattern;

/** The document's words once more, as slowly and plainly as the Java library lets one say them. */
final class Model {
    static final int NONE = -1, UNKNOWN = -2, OUTSIDE = -3, NOT = -4, FULL = -5;
    private static final Pattern TOKEN = Pattern.compile("[a-z]+|[0-9]+|[^ ]", Pattern.DOTALL);
    private static final Map<String, String> FORMS = new HashMap<>();

    static {
        FORMS.put("hall", "N");
        FORMS.put("skill", "MDV");
        FORMS.put("like", "MDV");
        FORMS.put("plain", "D");
        FORMS.put("tiring", "D");
        FORMS.put("holy", "D");
        FORMS.put("sweet", "D");
        FORMS.put("ring", "R");
        FORMS.put("did", "MD");
    }

    private String text = "";
    private int n;
    private int ring;
    private int[][] skill;
    private int[][] like;
    private String[] kind;
    private int[] told;
    private List<Integer> today;
    private List<Integer> yesterday;
    private List<List<Integer>> book = new ArrayList<>();
    private final Map<Integer, Object[]> kept = new HashMap<>();

    Model() {
        open(4);
        beginAnew();
    }

    private void open(int monks) {
        n = monks;
        ring = 3;
        skill = new int[n][n];
        like = new int[n][n];
        kind = new String[n];
        told = new int[n];
        for (int i = 0; i < n; i++) {
            Arrays.fill(skill[i], 5);
            Arrays.fill(like[i], 5);
        }
        Arrays.fill(kind, "plain");
        Arrays.fill(told, NONE);
    }

    private void beginAnew() {
        today = null;
        book = new ArrayList<>();
        kept.clear();
        yesterday = new ArrayList<>();
        for (int did : told) {
            yesterday.add(did);
        }
    }

    // ---- what is told

    int write(long bytes, int count) {
        if (count < 1 || count > 8) {
            return OUTSIDE;
        }
        if (text.length() + count > 200) {
            return FULL;
        }
        for (int i = 0; i < count; i++) {
            text += (char) (bytes >> 8 * i & 255);
        }
        return text.length();
    }

    int erase() {
        int had = text.length();
        text = "";
        return had;
    }

    int fault() {
        return read(new ArrayList<>());
    }

    int hall() {
        List<List<String>> lines = new ArrayList<>();
        if (read(lines) != NONE) {
            return NOT;
        }
        for (List<String> line : lines) {
            obey(line);
        }
        text = "";
        beginAnew();
        return lines.size();
    }

    private int read(List<List<String>> lines) {
        List<String> tokens = new ArrayList<>();
        List<Integer> places = new ArrayList<>();
        Matcher matcher = TOKEN.matcher(text);
        while (matcher.find()) {
            tokens.add(matcher.group());
            places.add(matcher.start());
        }
        places.add(text.length());
        int monks = n;
        int at = 0;
        while (true) {
            if (at == tokens.size() || !FORMS.containsKey(tokens.get(at))) {
                return places.get(at);
            }
            List<String> line = new ArrayList<>();
            line.add(tokens.get(at++));
            for (char operand : FORMS.get(line.get(0)).toCharArray()) {
                if (at == tokens.size() || !stands(tokens.get(at), operand, monks)) {
                    return places.get(at);
                }
                line.add(tokens.get(at++));
            }
            lines.add(line);
            if (line.get(0).equals("hall")) {
                monks = Integer.parseInt(line.get(1));
            }
            if (at == tokens.size()) {
                return NONE;
            }
            if (!tokens.get(at).equals(";") || lines.size() == 14) {
                return places.get(at);
            }
            at++;
        }
    }

    private static boolean stands(String token, char operand, int monks) {
        if (!token.matches("[0-9]{1,2}")) {
            return false;
        }
        int value = Integer.parseInt(token);
        switch (operand) {
            case 'N':
                return value >= 2 && value <= 7;
            case 'V':
                return value <= 9;
            case 'R':
                return value == 0 || value == 2 || value == 3;
            default:
                return value < monks;
        }
    }

    private void obey(List<String> line) {
        int[] numbers = line.stream().skip(1).mapToInt(Integer::parseInt).toArray();
        switch (line.get(0)) {
            case "hall":
                open(numbers[0]);
                break;
            case "skill":
                skill[numbers[0]][numbers[1]] = numbers[2];
                break;
            case "like":
                like[numbers[0]][numbers[1]] = numbers[2];
                break;
            case "ring":
                ring = numbers[0];
                break;
            case "did":
                told[numbers[0]] = numbers[1];
                break;
            default:
                kind[numbers[0]] = line.get(0);
                break;
        }
    }

    private boolean known(int i) {
        return 0 <= i && i < n;
    }

    private boolean may(int monk, int duty, List<Integer> before) {
        int last = before.get(monk);
        if (skill[monk][duty] == 0) {
            return false;
        }
        if (kind[duty].equals("tiring") && last != NONE && kind[last].equals("tiring")) {
            return false;
        }
        return !(kind[duty].equals("holy") && last == duty);
    }

    private boolean isLawful(List<Integer> row, List<Integer> before) {
        for (int monk = 0; monk < n; monk++) {
            if (!may(monk, row.get(monk), before)) {
                return false;
            }
        }
        return true;
    }

    int monk(int monk, int duty, int what) {
        if (!known(monk) || !known(duty)) {
            return UNKNOWN;
        }
        if (what < 0 || what > 2) {
            return OUTSIDE;
        }
        return what == 0 ? skill[monk][duty] : what == 1 ? like[monk][duty] : may(monk, duty, yesterday) ? 1 : 0;
    }

    int as(int duty, int what) {
        if (!known(duty)) {
            return UNKNOWN;
        }
        if (what < 0 || what > 4) {
            return OUTSIDE;
        }
        Map<String, List<Integer>> areas = new HashMap<>();
        areas.put("plain", List.of(0, 1));
        areas.put("tiring", List.of(0, 1, 2));
        areas.put("holy", List.of(0, 3));
        areas.put("sweet", List.of(0, 3, 4));
        if (!areas.get(kind[duty]).contains(what)) {
            return NOT;
        }
        int able = 0;
        for (int monk = 0; monk < n; monk++) {
            able += may(monk, duty, yesterday) ? 1 : 0;
        }
        return able;
    }

    // ---- a dawn

    /** All rows as they rise, so that a row's index is its number. */
    private List<List<Integer>> allDraws() {
        List<List<Integer>> all = new ArrayList<>();
        grow(new ArrayList<>(), all);
        return all;
    }

    private void grow(List<Integer> row, List<List<Integer>> all) {
        if (row.size() == n) {
            all.add(new ArrayList<>(row));
            return;
        }
        for (int duty = 0; duty < n; duty++) {
            if (!row.contains(duty)) {
                row.add(duty);
                grow(row, all);
                row.remove(row.size() - 1);
            }
        }
    }

    int lay(int number) {
        List<List<Integer>> all = allDraws();
        if (number < 0 || number >= all.size()) {
            return OUTSIDE;
        }
        if (!isLawful(all.get(number), yesterday)) {
            return NOT;
        }
        today = all.get(number);
        return 1;
    }

    int draw(int z) {
        if (z < 1 || z > 9999) {
            return OUTSIDE;
        }
        BigInteger x = BigInteger.valueOf(z);
        for (int tries = 1; tries <= 50; tries++) {
            List<Integer> row = new ArrayList<>();
            for (int i = 0; i < n; i++) {
                row.add(i);
            }
            for (int i = n - 1; i >= 1; i--) {
                x = x.multiply(BigInteger.valueOf(16807)).mod(BigInteger.valueOf(65521));
                java.util.Collections.swap(row, i, x.intValue() % (i + 1));
            }
            if (isLawful(row, yesterday)) {
                today = row;
                return tries;
            }
        }
        return NOT;
    }

    int has(int monk, int what) {
        if (!known(monk)) {
            return UNKNOWN;
        }
        if (what != 0 && what != 1) {
            return OUTSIDE;
        }
        if (what == 1) {
            return yesterday.get(monk);
        }
        return today == null ? NONE : today.get(monk);
    }

    /** All trades in their order; each is the monks in it, the first being the least. */
    private List<List<Integer>> allTrades(int size) {
        List<List<Integer>> trades = new ArrayList<>();
        for (int a = 0; a < n; a++) {
            for (int b = 0; b < n; b++) {
                if (size == 2 && a < b) {
                    trades.add(List.of(a, b));
                }
                for (int c = 0; c < n; c++) {
                    if (size == 3 && a < b && a < c && b != c) {
                        trades.add(List.of(a, b, c));
                    }
                }
            }
        }
        return trades;
    }

    private static List<Integer> traded(List<Integer> row, List<Integer> trade) {
        List<Integer> after = new ArrayList<>(row);
        for (int i = 0; i < trade.size(); i++) {
            after.set(trade.get(i), row.get(trade.get((i + 1) % trade.size())));
        }
        return after;
    }

    private boolean wanted(List<Integer> row, List<Integer> trade) {
        List<Integer> after = traded(row, trade);
        for (int monk : trade) {
            if (!may(monk, after.get(monk), yesterday)
                    || like[monk][after.get(monk)] <= like[monk][row.get(monk)]) {
                return false;
            }
        }
        return true;
    }

    int trade(int a, int b, int c) {
        if (!known(a) || !known(b) || ring == 3 && !known(c)) {
            return UNKNOWN;
        }
        if (ring != 3 && c != NONE || a == b || ring == 3 && (a == c || b == c)) {
            return OUTSIDE;
        }
        List<Integer> trade = ring == 3 ? List.of(a, b, c) : List.of(a, b);
        if (today == null || ring == 0 || !wanted(today, trade)) {
            return NOT;
        }
        today = traded(today, trade);
        return sum(today, like);
    }

    private int sum(List<Integer> row, int[][] of) {
        int sum = 0;
        for (int monk = 0; monk < n; monk++) {
            sum += of[monk][row.get(monk)];
        }
        return sum;
    }

    /** The row as settled, and behind it the number of trades. */
    private List<Integer> settled(List<Integer> row, List<List<Integer>> trades) {
        List<Integer> now = row;
        int made = 0;
        boolean more = true;
        while (more) {
            more = false;
            for (List<Integer> trade : trades) {
                if (wanted(now, trade)) {
                    now = traded(now, trade);
                    made++;
                    more = true;
                    break;
                }
            }
        }
        List<Integer> answer = new ArrayList<>(now);
        answer.add(made);
        return answer;
    }

    int settle() {
        if (today == null) {
            return NOT;
        }
        List<Integer> row = settled(today, allTrades(ring));
        today = row.subList(0, n);
        return row.get(n);
    }

    int dawn() {
        if (today == null) {
            return NOT;
        }
        if (book.size() == 16) {
            return FULL;
        }
        book.add(today);
        yesterday = today;
        today = null;
        return book.size();
    }

    int today(int what) {
        if (what < 0 || what > 2) {
            return OUTSIDE;
        }
        if (today == null) {
            return NOT;
        }
        return what == 0 ? allDraws().indexOf(today) : sum(today, what == 1 ? skill : like);
    }

    // ---- foretold

    int ends(int what) {
        if (what < 0 || what > 2) {
            return OUTSIDE;
        }
        if (today == null) {
            return NOT;
        }
        Map<List<Integer>, Boolean> seen = new LinkedHashMap<>();
        walk(today, allTrades(ring), seen);
        TreeSet<Integer> best = new TreeSet<>();
        List<List<Integer>> all = allDraws();
        int most = -1;
        int many = 0;
        for (Map.Entry<List<Integer>, Boolean> entry : seen.entrySet()) {
            if (entry.getValue()) {
                many++;
                int glad = sum(entry.getKey(), like);
                if (glad > most) {
                    best.clear();
                    most = glad;
                }
                if (glad == most) {
                    best.add(all.indexOf(entry.getKey()));
                }
            }
        }
        return what == 0 ? many : what == 1 ? most : best.first();
    }

    private void walk(List<Integer> row, List<List<Integer>> trades, Map<List<Integer>, Boolean> seen) {
        if (seen.containsKey(row)) {
            return;
        }
        seen.put(row, true);
        for (List<Integer> trade : trades) {
            if (wanted(row, trade)) {
                seen.put(row, false);
                walk(traded(row, trade), trades, seen);
            }
        }
    }

    int hint(int monk) {
        if (!known(monk)) {
            return UNKNOWN;
        }
        if (today == null) {
            return NOT;
        }
        int best = NONE;
        for (int duty = n - 1; duty >= 0; duty--) {
            boolean open = false;
            for (List<Integer> trade : allTrades(ring)) {
                open |= trade.contains(monk) && wanted(today, trade) && traded(today, trade).get(monk) == duty;
            }
            if (open && (best == NONE || like[monk][duty] >= like[monk][best])) {
                best = duty;
            }
        }
        return best;
    }

    private List<List<Integer>> lawfulDraws() {
        List<List<Integer>> lawful = new ArrayList<>();
        for (List<Integer> row : allDraws()) {
            if (isLawful(row, yesterday)) {
                lawful.add(row);
            }
        }
        return lawful;
    }

    int lawful() {
        return lawfulDraws().size();
    }

    private static long part(BigInteger above, BigInteger below, int part) {
        BigInteger common = above.gcd(below);
        return (part == 0 ? above : below).divide(common).longValueExact();
    }

    int mean(int told, int what, int part) {
        if (told != 0 && told != 2 && told != 3 || what != 0 && what != 1 || part != 0 && part != 1) {
            return OUTSIDE;
        }
        List<List<Integer>> lawful = lawfulDraws();
        if (lawful.isEmpty()) {
            return NOT;
        }
        List<List<Integer>> trades = allTrades(told);
        long sum = 0;
        for (List<Integer> row : lawful) {
            sum += sum(settled(row, trades), what == 0 ? skill : like);
        }
        return (int) part(BigInteger.valueOf(sum), BigInteger.valueOf(lawful.size()), part);
    }

    int odds(int monk, int duty, int told, int part) {
        if (!known(monk) || !known(duty)) {
            return UNKNOWN;
        }
        if (told != 0 && told != 2 && told != 3 || part != 0 && part != 1) {
            return OUTSIDE;
        }
        List<List<Integer>> lawful = lawfulDraws();
        if (lawful.isEmpty()) {
            return NOT;
        }
        List<List<Integer>> trades = allTrades(told);
        long times = 0;
        for (List<Integer> row : lawful) {
            times += settled(row, trades).get(monk) == duty ? 1 : 0;
        }
        return (int) part(BigInteger.valueOf(times), BigInteger.valueOf(lawful.size()), part);
    }

    int week(int w) {
        if (w < 1 || w > 7) {
            return OUTSIDE;
        }
        if (n > 5) {
            return NOT;
        }
        return greatest(w, yesterday, allDraws(), new HashMap<>());
    }

    private int greatest(int left, List<Integer> before, List<List<Integer>> all, Map<List<Integer>, Integer> known) {
        if (left == 0) {
            return 0;
        }
        List<Integer> key = new ArrayList<>(before);
        key.add(left);
        if (known.containsKey(key)) {
            return known.get(key);
        }
        int best = NONE;
        for (List<Integer> row : all) {
            if (isLawful(row, before)) {
                int rest = greatest(left - 1, row, all, known);
                if (rest != NONE) {
                    best = Math.max(best, rest + sum(row, skill));
                }
            }
        }
        known.put(key, best);
        return best;
    }

    // ---- the book

    private int times(int monk, int duty) {
        int times = 0;
        for (List<Integer> row : book) {
            times += row.get(monk) == duty ? 1 : 0;
        }
        return times;
    }

    int often(int monk, int duty) {
        return known(monk) && known(duty) ? times(monk, duty) : UNKNOWN;
    }

    /** Of n to the power d: one minus the ways with fewer than k, by adding one dawn after another. */
    private BigInteger tailAbove(int k) {
        BigInteger[] ways = new BigInteger[book.size() + 2];
        Arrays.fill(ways, BigInteger.ZERO);
        ways[0] = BigInteger.ONE;
        for (int dawn = 0; dawn < book.size(); dawn++) {
            for (int times = dawn + 1; times >= 0; times--) {
                BigInteger one = times == 0 ? BigInteger.ZERO : ways[times - 1];
                ways[times] = ways[times].multiply(BigInteger.valueOf(n - 1)).add(one);
            }
        }
        BigInteger above = BigInteger.valueOf(n).pow(book.size());
        for (int times = 0; times < k; times++) {
            above = above.subtract(ways[times]);
        }
        return above;
    }

    long tail(int monk, int duty, int part) {
        if (!known(monk) || !known(duty)) {
            return UNKNOWN;
        }
        if (part != 0 && part != 1) {
            return OUTSIDE;
        }
        return part(tailAbove(times(monk, duty)), BigInteger.valueOf(n).pow(book.size()), part);
    }

    int named(int q) {
        if (q < 0 || q > 1000) {
            return OUTSIDE;
        }
        BigInteger right = BigInteger.valueOf(n).pow(book.size()).multiply(BigInteger.valueOf(q));
        for (int monk = 0; monk < n; monk++) {
            for (int duty = 0; duty < n; duty++) {
                if (tailAbove(times(monk, duty)).multiply(BigInteger.valueOf(1000)).compareTo(right) < 0) {
                    return 10 * monk + duty;
                }
            }
        }
        return NONE;
    }

    int keep(int k) {
        if (k != 0 && k != 1) {
            return UNKNOWN;
        }
        kept.put(k, new Object[] {today, yesterday, new ArrayList<>(book)});
        return book.size();
    }

    @SuppressWarnings("unchecked")
    int back(int k) {
        if (k != 0 && k != 1) {
            return UNKNOWN;
        }
        if (!kept.containsKey(k)) {
            return NOT;
        }
        Object[] image = kept.get(k);
        today = (List<Integer>) image[0];
        yesterday = (List<Integer>) image[1];
        book = new ArrayList<>((List<List<Integer>>) image[2]);
        return book.size();
    }

    int count(int what) {
        switch (what) {
            case 0:
                return n;
            case 1:
                return ring;
            case 2:
                return book.size();
            case 3:
                return text.length();
            case 4:
                return today == null ? 0 : 1;
            default:
                return OUTSIDE;
        }
    }
}
