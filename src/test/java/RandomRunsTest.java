import java.util.Random;

/** Runs of random calls (the same ones each time), held against the plain model. */
public final class RandomRunsTest {
    private static final Due DUE = new Due("RandomRunsTest");
    private static final int RUNS = 600;
    private static final int CALLS = 420;
    private static int run = 0;

    private final Random random;
    private final SmellInTheHouse x = new SmellInTheHouse();
    private final PlainModel y = new PlainModel();

    private RandomRunsTest(int seed) {
        random = new Random(seed);
    }

    public static void main(String[] args) {
        for (run = 1; run <= RUNS; run++) {
            new RandomRunsTest(run).go();
        }
        DUE.end();
    }

    private void due(String call, long got, long want) {
        if (got != want) {
            DUE.is("run " + run + ": " + call, got, want);
        }
    }

    private int below(int n) {
        return random.nextInt(n);
    }

    /** A number that is mostly fitting, now and then one at the edges or far off. */
    private int some(int least, int most) {
        int way = below(40);
        int[] odd = {least - 1, most + 1, least, most, Integer.MIN_VALUE, Integer.MAX_VALUE};
        return way < odd.length ? odd[way] : least + below(most - least + 1);
    }

    private int room() {
        return some(0, Math.max(1, x.count(0) - 1 - below(2)));
    }

    private int nose() {
        return some(0, Math.max(0, x.count(2) - 1));
    }

    private int source() {
        return some(0, Math.max(0, x.count(1) - 1));
    }

    private int minutes() {
        return below(4) == 0 ? some(0, 200) : some(0, 12);
    }

    private String digits(int... mosts) {
        StringBuilder told = new StringBuilder();
        for (int most : mosts) {
            told.append(below(60) == 0 ? below(10) : below(most + 1));
        }
        return told.toString();
    }

    private String statement(int rooms) {
        int r = rooms - 1;
        switch (below(8)) {
            case 0: return "n" + (rooms + below(2));
            case 1: case 2: return "f" + digits(r, r, 4);
            case 3: return "o" + digits(r, 9);
            case 4: case 5: return "s" + digits(7, r, 9, 9) + (below(3) == 0 ? "" : digits(9));
            case 6: return "e" + digits(4, 9, 9) + (below(3) == 0 ? "" : digits(9));
            default: return "x" + digits(r, r);
        }
    }

    private void tell(int most) {
        StringBuilder told = new StringBuilder();
        for (int i = below(most); i >= 0; i--) {
            told.append(statement(x.count(0))).append(';');
        }
        if (below(12) == 0) {
            told.setCharAt(below(told.length()), "nfosex;0189 ".charAt(below(12)));
        }
        if (below(30) == 0) {
            told.setLength(below(told.length()));
        }
        for (int i = 0; i < told.length(); i++) {
            due("feed", x.feed(told.charAt(i)), y.feed(told.charAt(i)));
        }
        due("house " + told, x.house(), y.house());
    }

    private void go() {
        tell(6);
        tell(3);
        for (int i = 0; i < CALLS; i++) {
            if (below(50) == 0) {
                tell(2);
            }
            if (below(2) == 0) {
                change();
            } else if (below(2) == 0) {
                ask();
            } else {
                askRounds();
            }
        }
        for (int what = -1; what <= 17; what++) {
            due("count " + what, x.count(what), y.count(what));
        }
        DUE.is("run " + run + " ended", 0, 0);
    }

    private void change() {
        int a = room();
        int b = room();
        int c = nose();
        switch (below(12)) {
            case 0: due("room", x.room(a, b), y.room(a, b)); break;
            case 1: fill(a); break;
            case 2: set(); break;
            case 3:
                boolean shut = below(2) == 0;
                due("door", x.door(a, b, shut), y.door(a, b, shut));
                break;
            case 4: case 5:
                int n = some(1, below(3) == 0 ? 99 : 3);
                due("go " + n, x.go(n), y.go(n));
                break;
            case 6: case 7: due("sniff", x.sniff(c, a), y.sniff(c, a)); break;
            case 8: due("outside", x.outside(c), y.outside(c)); break;
            case 9:
                int place = below(3) == 0 ? 9 : a;
                due("row " + place, x.row(place), y.row(place));
                break;
            case 10:
                if (below(4) == 0) {
                    due("clear", x.clear(), y.clear());
                }
                break;
            default: images();
        }
    }

    private void fill(int room) {
        int v = below(4) == 0 ? some(0, 9999) : some(0, 200);
        due("fill", x.fill(room, v), y.fill(room, v));
    }

    private void set() {
        int what = some(0, 2);
        int v = below(2) == 0 ? some(0, 3) : some(0, 999);
        due("set " + what + " " + v, x.set(what, v), y.set(what, v));
    }

    private void images() {
        if (below(2) == 0) {
            due("image", x.image(), y.image());
        } else if (below(3) == 0) {
            due("restore", x.restore(), y.restore());
        }
    }

    private void ask() {
        int a = room();
        int b = room();
        int s = source();
        int n = minutes();
        int what = some(0, 1);
        switch (below(16)) {
            case 0: due("behind", x.behind(a, n), y.behind(a, n)); break;
            case 1: due("strongest", x.strongest(n, what), y.strongest(n, what)); break;
            case 2:
                int much = some(0, 300);
                due("when", x.when(a, much), y.when(a, much));
                break;
            case 3: due("call", x.call(), y.call()); break;
            case 4: due("still", x.still(), y.still()); break;
            case 5: case 6: due("share", x.share(s, a, n), y.share(s, a, n)); break;
            case 7: due("tape", x.tape(a, b, n), y.tape(a, b, n)); break;
            case 8: due("bestTape", x.bestTape(a, n), y.bestTape(a, n)); break;
            case 9: case 10: due("bestDoor", x.bestDoor(a, n), y.bestDoor(a, n)); break;
            case 11: due("mouse", x.mouse(s, what), y.mouse(s, what)); break;
            case 12:
                int z = random.nextInt();
                int m = some(1, 50);
                due("seeds", x.seeds(m, z), y.seeds(m, z));
                break;
            case 13: due("flow", x.flow(a, b, what), y.flow(a, b, what)); break;
            case 14:
                int about = some(0, 5);
                due("source", x.source(s, about), y.source(s, about));
                due("nose", x.nose(s, about), y.nose(s, about));
                break;
            default:
                int counted = some(0, 17);
                due("count", x.count(counted), y.count(counted));
        }
    }

    private void askRounds() {
        int n = nose();
        int s = source();
        int what = some(0, 1);
        int told = below(2) == 0 ? some(0, 255) : Math.max(0, x.alone(n, s) + 0 * y.alone(n, s));
        switch (below(8)) {
            case 0: due("says", x.says(n), y.says(n)); break;
            case 1: due("alone", x.alone(n, s), y.alone(n, s)); break;
            case 2: due("apart", x.apart(n), y.apart(n)); break;
            case 3:
                int k = below(3) == 0 ? some(1, 3) : some(1, 2);
                due("bestRound " + k, x.bestRound(n, k, what), y.bestRound(n, k, what));
                break;
            case 4: case 5: due("odds " + told, x.odds(s, n, told, what), y.odds(s, n, told, what)); break;
            case 6: due("any " + told, x.any(n, told, what), y.any(n, told, what)); break;
            default: due("likely " + told, x.likely(n, told), y.likely(n, told));
        }
    }
}
