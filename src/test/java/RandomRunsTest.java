import java.util.Random;

/** Runs of calls by fixed seeds, each answer held against the Model's. */
public final class RandomRunsTest {
    private static final String[] VERBS =
            {"hall", "skill", "like", "plain", "tiring", "holy", "sweet", "ring", "did"};
    private static final String[] SCRAPS =
            {" ", "  ", ";", "ring", "hallo", "1", "007", "x", "9 9", "\t", "\u00ff", "-1", "Hall", "10", " ;"};
    private final Check check = new Check();
    private final Random random;
    private DutiesHat x = new DutiesHat();
    private Model model = new Model();
    private final int most;

    private RandomRunsTest(long seed, int most) {
        random = new Random(seed);
        this.most = most;
    }

    public static void main(String[] args) {
        Check all = new Check();
        for (int seed = 0; seed < 600; seed++) {
            RandomRunsTest run = new RandomRunsTest(seed, seed % 20 == 0 ? 7 : 5);
            run.go(seed % 20 == 0 ? 60 : 220);
            all.isTrue("run by seed " + seed, run.check.wrongOnes() == 0);
        }
        all.end();
    }

    private void go(int calls) {
        for (int i = 0; i < calls && check.wrongOnes() == 0; i++) {
            if (i % 45 == 0) {
                tell(sound());
            } else if (i % 45 == 20 && random.nextInt(3) == 0) {
                tell(random.nextBoolean() ? scrap(sound()) : sound());
            } else {
                ask();
            }
        }
    }

    private int upTo(int bound) {
        return random.nextInt(bound);
    }

    /** Mostly a monk or a duty that there is. */
    private int one() {
        return upTo(15) == 0 ? upTo(12) - 3 : upTo(model.count(0));
    }

    private int near(int bound) {
        return upTo(12) == 0 ? upTo(bound + 6) - 3 : upTo(bound);
    }

    private int someRing() {
        int pick = upTo(10);
        return pick < 9 ? new int[] {0, 2, 3}[pick % 3] : upTo(7) - 2;
    }

    private String sound() {
        StringBuilder text = new StringBuilder();
        int monks = model.count(0);
        int lines = 1 + upTo(14);
        for (int i = 0; i < lines; i++) {
            String verb = VERBS[upTo(VERBS.length)];
            if (i == 0 && upTo(2) == 0) {
                verb = "hall";
            } else if (verb.equals("hall") && upTo(6) != 0) {
                verb = "like";
            } else if (verb.equals("plain") || verb.equals("ring") && upTo(3) != 0) {
                verb = "like";
            }
            String line = line(verb, monks);
            if (text.length() + line.length() > 195) {
                break;
            }
            if (verb.equals("hall")) {
                monks = Integer.parseInt(line.substring(5));
            }
            text.append(i == 0 ? "" : ";").append(line);
        }
        return text.toString();
    }

    private String line(String verb, int monks) {
        String m = " " + upTo(monks);
        String d = " " + upTo(monks);
        switch (verb) {
            case "hall":
                return "hall " + (2 + upTo(most - 1));
            case "skill":
                return "skill" + m + d + " " + (upTo(3) == 0 ? 0 : upTo(10));
            case "like":
                return "like" + m + d + (upTo(4) == 0 ? "  0" : " ") + upTo(10);
            case "ring":
                return "ring " + new int[] {0, 2, 3, 3}[upTo(4)];
            case "did":
                return "did" + m + d;
            default:
                return verb + d;
        }
    }

    private String scrap(String text) {
        int at = upTo(text.length() + 1);
        String cut = upTo(3) == 0 ? text.substring(0, at) : text.substring(0, at) + SCRAPS[upTo(SCRAPS.length)]
                + text.substring(at);
        return cut.length() > 200 ? cut.substring(0, 200) : cut;
    }

    private void tell(String text) {
        for (int i = 0; i < text.length(); i += 8) {
            write(Check.pack(text, i), Math.min(8, text.length() - i));
        }
        check.due("fault of '" + text + "'", x.fault(), model.fault());
        check.due("hall of '" + text + "'", x.hall(), model.hall());
        check.due("erase()", x.erase(), model.erase());
    }

    private void write(long bytes, int n) {
        check.due("write(" + bytes + ", " + n + ")", x.write(bytes, n), model.write(bytes, n));
    }

    private void ask() {
        int a = one();
        int b = one();
        int c = upTo(3) == 0 ? -1 : one();
        switch (upTo(30)) {
            case 0:
                write(random.nextLong(), upTo(12) - 1);
                check.due("fault()", x.fault(), model.fault());
                check.due("hall()", x.hall(), model.hall());
                check.due("erase()", x.erase(), model.erase());
                break;
            case 1:
            case 2:
                int what = near(3);
                check.due("monk(" + a + ", " + b + ", " + what + ")", x.monk(a, b, what), model.monk(a, b, what));
                break;
            case 3:
                int kind = near(5);
                check.due("as(" + a + ", " + kind + ")", x.as(a, kind), model.as(a, kind));
                break;
            case 4:
            case 5:
                int number = upTo(10) == 0 ? upTo(6000) - 10 : upTo(factorial(model.count(0)));
                check.due("lay(" + number + ")", x.lay(number), model.lay(number));
                break;
            case 6:
            case 7:
            case 8:
            case 9:
                int z = upTo(20) == 0 ? upTo(2) * 10000 : 1 + upTo(9999);
                check.due("draw(" + z + ")", x.draw(z), model.draw(z));
                break;
            case 10:
                int of = near(2);
                check.due("has(" + a + ", " + of + ")", x.has(a, of), model.has(a, of));
                break;
            case 11:
            case 12:
            case 13:
                check.due("trade(" + a + ", " + b + ", " + c + ")", x.trade(a, b, c), model.trade(a, b, c));
                break;
            case 14:
                check.due("settle()", x.settle(), model.settle());
                break;
            case 15:
            case 16:
            case 17:
                check.due("dawn()", x.dawn(), model.dawn());
                break;
            default:
                askMore(a, b);
                break;
        }
    }

    private void askMore(int a, int b) {
        int what = near(3);
        int part = near(2);
        switch (upTo(13)) {
            case 0:
                check.due("today(" + what + ")", x.today(what), model.today(what));
                break;
            case 1:
            case 2:
                check.due("ends(" + what + ")", x.ends(what), model.ends(what));
                break;
            case 3:
                check.due("hint(" + a + ")", x.hint(a), model.hint(a));
                break;
            case 4:
                check.due("lawful()", x.lawful(), model.lawful());
                break;
            case 5:
                int ring = someRing();
                int sum = near(2);
                check.due("mean(" + ring + ", " + sum + ", " + part + ")", x.mean(ring, sum, part),
                        model.mean(ring, sum, part));
                break;
            case 6:
                int by = someRing();
                check.due("odds(" + a + ", " + b + ", " + by + ", " + part + ")", x.odds(a, b, by, part),
                        model.odds(a, b, by, part));
                break;
            case 7:
                int w = near(8);
                check.due("week(" + w + ")", x.week(w), model.week(w));
                break;
            case 8:
                check.due("often(" + a + ", " + b + ")", x.often(a, b), model.often(a, b));
                check.due("tail(" + a + ", " + b + ", " + part + ")", x.tail(a, b, part), model.tail(a, b, part));
                break;
            case 9:
                int q = upTo(10) == 0 ? upTo(1100) - 50 : upTo(1001);
                check.due("named(" + q + ")", x.named(q), model.named(q));
                break;
            case 10:
                int k = near(2);
                check.due("keep(" + k + ")", x.keep(k), model.keep(k));
                break;
            case 11:
                int from = near(2);
                check.due("back(" + from + ")", x.back(from), model.back(from));
                break;
            default:
                int all = near(5);
                check.due("count(" + all + ")", x.count(all), model.count(all));
                break;
        }
    }

    private static int factorial(int n) {
        return n < 2 ? 1 : n * factorial(n - 1);
    }
}
