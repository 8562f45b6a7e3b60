/**
 * All that an object can be asked for, told as texts, a view each. A view may change the object that it asks, so that
 * each view is taken of an object of its own, made by the same calls.
 */
final class Witness {
    static final int VIEWS = 6;
    private final StringBuilder seen = new StringBuilder();
    private final DutiesHat x;

    private Witness(DutiesHat x) {
        this.x = x;
    }

    static String view(DutiesHat x, int view) {
        Witness witness = new Witness(x);
        switch (view) {
            case 0:
                witness.told();
                break;
            case 1:
                witness.foretold();
                break;
            case 2:
            case 3:
                witness.note(x.back(view - 2));
                witness.days();
                break;
            case 4:
                witness.note(x.hall());
                witness.told();
                break;
            default:
                witness.note(x.dawn());
                witness.days();
                break;
        }
        return witness.seen.toString();
    }

    private void note(long answer) {
        seen.append(answer).append(' ');
    }

    private void told() {
        int n = x.count(0);
        note(x.fault());
        for (int m = 0; m < n; m++) {
            for (int d = 0; d < n; d++) {
                note(x.monk(m, d, 0));
                note(x.monk(m, d, 1));
                note(x.monk(m, d, 2));
            }
            for (int kind = 0; kind < 5; kind++) {
                note(x.as(m, kind));
            }
        }
        days();
    }

    private void days() {
        int n = x.count(0);
        for (int what = 0; what < 5; what++) {
            note(x.count(what));
        }
        for (int what = 0; what < 3; what++) {
            note(x.today(what));
            note(x.ends(what));
        }
        for (int m = 0; m < n; m++) {
            note(x.has(m, 0));
            note(x.has(m, 1));
            note(x.hint(m));
            for (int d = 0; d < n; d++) {
                note(x.often(m, d));
            }
        }
    }

    private void foretold() {
        int n = x.count(0);
        note(x.lawful());
        for (int ring : new int[] {0, 2, 3}) {
            for (int part = 0; part < 2; part++) {
                note(x.mean(ring, 0, part));
                note(x.mean(ring, 1, part));
            }
            for (int m = 0; m < n; m++) {
                for (int d = 0; d < n; d++) {
                    note(x.odds(m, d, ring, 0));
                }
            }
        }
        for (int w = 1; w <= 7; w++) {
            note(x.week(w));
        }
        for (int m = 0; m < n; m++) {
            for (int d = 0; d < n; d++) {
                note(x.tail(m, d, 0));
                note(x.tail(m, d, 1));
            }
        }
        for (int q = 0; q <= 1000; q += 125) {
            note(x.named(q));
        }
    }
}
