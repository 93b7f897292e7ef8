import java.math.BigInteger;
import java.util.ArrayList;
import java.util.List;
import java.util.regex.Matcher;
import java.util.regex.Pattern;

/** The document told once more, as plainly and wastefully as can be, for the random runs. */
final class PlainModel {
    private static final Pattern HOUSE =
            Pattern.compile("((n\\d|f\\d{3}|o\\d\\d|s\\d{4,5}|e\\d{3,4}|x\\d\\d);)+", Pattern.DOTALL);

    /** All that an image keeps. */
    private static final class State {
        List<Integer> strength = new ArrayList<>(List.of(0, 0));
        List<Integer> out = new ArrayList<>(List.of(1, 1));
        int[][] flow = new int[5][5];
        boolean[][] shut = new boolean[5][5];
        List<int[]> sources = new ArrayList<>();
        List<int[]> noses = new ArrayList<>();
        int[] settings = {0, 200, 10};
        int minute = 0;
        boolean said = false;

        State copy() {
            State c = new State();
            c.strength = new ArrayList<>(strength);
            c.out = new ArrayList<>(out);
            for (int i = 0; i < 5; i++) {
                c.flow[i] = flow[i].clone();
                c.shut[i] = shut[i].clone();
            }
            for (int[] s : sources) {
                c.sources.add(s.clone());
            }
            for (int[] n : noses) {
                c.noses.add(n.clone());
            }
            c.settings = settings.clone();
            c.minute = minute;
            c.said = said;
            return c;
        }

        int rooms() {
            return strength.size();
        }

        // A source: kind, room, figure, strong.
        int gives(int[] s, int t) {
            int strong = s[3];
            switch (s[0]) {
                case 1: case 5: return strong;
                case 2: return t % 10 == s[2] ? strong : 0;
                case 3: return settings[0] == s[2] % 4 ? strong : 0;
                case 4:
                    int age = 0;
                    // Up a step a minute till figure and 1, then down.
                    for (int i = 1; i <= t; i++) {
                        age += i <= s[2] + 1 ? 1 : -1;
                    }
                    return Math.max(0, age) * strong / (s[2] + 1);
                case 6: return strong - strong / 2;
                default: return 0;
            }
        }

        int into(int[] s) {
            return s[0] == 5 || s[0] == 6 ? (s[1] + 1) % rooms() : s[1];
        }

        void minute(int taped) {
            int[] h = new int[rooms()];
            for (int r = 0; r < rooms(); r++) {
                int sum = strength.get(r);
                for (int[] s : sources) {
                    sum += into(s) == r && r != taped ? gives(s, minute) : 0;
                }
                h[r] = Math.min(9999, sum);
            }
            int[] then = new int[rooms()];
            for (int r = 0; r < rooms(); r++) {
                int left = h[r];
                for (int q = 0; q < rooms(); q++) {
                    if (q != r && !shut[r][q]) {
                        int moves = Math.min(left, flow[r][q] * h[r] / 10);
                        then[q] += moves;
                        left -= moves;
                    }
                }
                then[r] += left - Math.min(left, out.get(r) * h[r] / 10);
            }
            for (int r = 0; r < rooms(); r++) {
                strength.set(r, Math.min(9999, then[r]));
            }
            minute++;
        }

        State behind(int n) {
            State c = copy();
            for (int i = 0; i < n; i++) {
                c.minute(-1);
            }
            return c;
        }

        // A nose: kind, tires, line, tired.
        static int line(int[] n) {
            int[] lines = {n[2], n[2] - n[2] / 2, n[2] * 2, n[2] - n[2] / 2, n[2]};
            return lines[n[0]];
        }

        boolean sniff(int[] n, int strengthThere) {
            boolean smells = strengthThere >= line(n) && (n[3] < n[1] || n[0] == 3);
            n[3] = smells ? n[3] + 1 : Math.max(0, n[3] - 1);
            said = smells || n[0] == 4 && said;
            return said;
        }

        boolean has(int room) {
            return room >= 0 && room < rooms();
        }

        boolean pair(int a, int b) {
            return has(a) && has(b) && a != b;
        }
    }

    private State now = new State();
    private State image = null;
    private String letters = "";
    private List<Integer> row = new ArrayList<>();
    private final int[] refusals = new int[7];

    private int no(int code) {
        refusals[-code]++;
        return code;
    }

    private boolean noNose(int nose) {
        return nose < 0 || nose >= now.noses.size();
    }

    private boolean noSource(int source) {
        return source < 0 || source >= now.sources.size();
    }

    int feed(int letter) {
        if (letter < 0) {
            return no(-4);
        }
        if (letter > 255 || letters.length() == 72) {
            return no(-6);
        }
        letters += (char) letter;
        return letters.length();
    }

    int house() {
        String text = letters;
        letters = "";
        if (!HOUSE.matcher(text).matches()) {
            for (int p = 0; p < text.length(); p++) {
                Matcher m = HOUSE.matcher(text.substring(0, p + 1));
                if (!m.matches() && !m.hitEnd()) {
                    return -1000 - p;
                }
            }
            return -1000 - text.length();
        }
        State then = now.copy();
        int place = 0;
        String[] statements = text.split(";");
        for (String s : statements) {
            if (!take(then, s)) {
                return -2000 - place;
            }
            place += s.length() + 1;
        }
        now = then;
        return statements.length;
    }

    private static boolean take(State st, String s) {
        int a = s.charAt(1) - '0';
        int b = s.length() > 2 ? s.charAt(2) - '0' : 0;
        int c = s.length() > 3 ? s.charAt(3) - '0' : 0;
        switch (s.charAt(0)) {
            case 'n':
                if (a < st.rooms() || a > 5) {
                    return false;
                }
                while (st.rooms() < a) {
                    int r = st.rooms();
                    st.strength.add(0);
                    st.out.add(1);
                    for (int i = 0; i < 5; i++) {
                        st.flow[i][r] = 0;
                        st.flow[r][i] = 0;
                        st.shut[i][r] = false;
                        st.shut[r][i] = false;
                    }
                }
                return true;
            case 'f':
                if (!st.pair(a, b) || c > 4) {
                    return false;
                }
                st.flow[a][b] = c;
                return true;
            case 'o':
                if (!st.has(a)) {
                    return false;
                }
                st.out.set(a, b);
                return true;
            case 'x':
                if (!st.pair(a, b)) {
                    return false;
                }
                st.shut[a][b] = !st.shut[a][b];
                st.shut[b][a] = st.shut[a][b];
                return true;
            case 's':
                if (a > 7 || !st.has(b) || st.sources.size() == 5) {
                    return false;
                }
                st.sources.add(new int[] {a, b, c, Integer.parseInt(s.substring(4))});
                return true;
            default:
                int line = Integer.parseInt(s.substring(3));
                if (a > 4 || b < 1 || line < 1 || st.noses.size() == 4) {
                    return false;
                }
                st.noses.add(new int[] {a, b, line, 0});
                return true;
        }
    }

    int room(int room, int what) {
        if (!now.has(room)) {
            return no(-1);
        }
        return what == 0 ? now.strength.get(room) : what == 1 ? now.out.get(room) : no(-2);
    }

    int flow(int from, int to, int what) {
        if (!now.pair(from, to)) {
            return no(-1);
        }
        return what == 0 ? now.flow[from][to] : what == 1 ? (now.shut[from][to] ? 1 : 0) : no(-2);
    }

    int source(int source, int what) {
        if (noSource(source)) {
            return no(-1);
        }
        int[] s = now.sources.get(source);
        switch (what) {
            case 0: return s[0];
            case 1: return s[1];
            case 2: return s[3];
            case 3: return s[2];
            case 4: return now.gives(s, now.minute);
            case 5: return now.into(s);
            default: return no(-2);
        }
    }

    int nose(int nose, int what) {
        if (noNose(nose)) {
            return no(-1);
        }
        int[] n = now.noses.get(nose);
        switch (what) {
            case 0: return n[0];
            case 1: return n[2];
            case 2: return n[1];
            case 3: return n[3];
            case 4: return State.line(n);
            default: return no(-2);
        }
    }

    int set(int what, int v) {
        if (what < 0 || what > 2) {
            return no(-2);
        }
        if (v < (what == 1 ? 1 : 0)) {
            return no(-4);
        }
        if (v > (what == 0 ? 3 : what == 1 ? 999 : 50)) {
            return no(-6);
        }
        int was = now.settings[what];
        now.settings[what] = v;
        return was;
    }

    int fill(int room, int v) {
        if (!now.has(room)) {
            return no(-1);
        }
        return v < 0 ? no(-4) : v > 9999 ? no(-6) : now.strength.set(room, v);
    }

    int door(int one, int other, boolean shut) {
        if (!now.pair(one, other)) {
            return no(-1);
        }
        int changed = now.shut[one][other] == shut ? 0 : 1;
        now.shut[one][other] = shut;
        now.shut[other][one] = shut;
        return changed;
    }

    int go(int n) {
        if (n < 1) {
            return no(-4);
        }
        if (n > 99 || now.minute + n > 9999) {
            return no(-6);
        }
        now = now.behind(n);
        return now.minute;
    }

    int sniff(int nose, int room) {
        if (noNose(nose) || !now.has(room)) {
            return no(-1);
        }
        return now.sniff(now.noses.get(nose), now.strength.get(room)) ? 1 : 0;
    }

    int outside(int nose) {
        if (noNose(nose)) {
            return no(-1);
        }
        int[] n = now.noses.get(nose);
        n[3] = Math.max(0, n[3] - 3);
        return n[3];
    }

    private int mind(int n) {
        return n < 0 ? no(-4) : n > 200 ? no(-6) : 0;
    }

    int behind(int room, int n) {
        if (!now.has(room)) {
            return no(-1);
        }
        int refusal = mind(n);
        return refusal != 0 ? refusal : now.behind(n).strength.get(room);
    }

    int strongest(int n, int what) {
        if (what != 0 && what != 1) {
            return no(-2);
        }
        int refusal = mind(n);
        if (refusal != 0) {
            return refusal;
        }
        State then = now.behind(n);
        int best = -9;
        for (int r = then.rooms() - 1; r >= 0; r--) {
            boolean given = false;
            for (int[] s : then.sources) {
                given |= s[0] >= 1 && s[0] <= 6 && then.into(s) == r;
            }
            boolean may = what == 0 || !given && then.strength.get(r) > 0;
            if (may && (best < 0 || then.strength.get(r) >= then.strength.get(best))) {
                best = r;
            }
        }
        return best;
    }

    int when(int room, int much) {
        if (!now.has(room)) {
            return no(-1);
        }
        if (much < 0) {
            return no(-4);
        }
        if (much > 9999) {
            return no(-6);
        }
        State then = now.copy();
        for (int n = 0; n <= 200; n++, then.minute(-1)) {
            if (then.strength.get(room) >= much) {
                return n;
            }
        }
        return -9;
    }

    int call() {
        State then = now.copy();
        for (int n = 0; n <= 200; n++, then.minute(-1)) {
            for (int strength : then.strength) {
                if (strength >= now.settings[1]) {
                    return n;
                }
            }
        }
        return -9;
    }

    int still() {
        State then = now.copy();
        for (int n = 0; n <= 199; n++) {
            List<Integer> was = new ArrayList<>(then.strength);
            then.minute(-1);
            if (was.equals(then.strength)) {
                return n;
            }
        }
        return -9;
    }

    int share(int source, int room, int n) {
        if (noSource(source) || !now.has(room)) {
            return 1000000000 - no(-1);
        }
        int refusal = mind(n);
        if (refusal != 0) {
            return 1000000000 - refusal;
        }
        State without = now.copy();
        without.sources.remove(source);
        return now.behind(n).strength.get(room) - without.behind(n).strength.get(room);
    }

    int tape(int taped, int room, int n) {
        if (!now.has(taped) || !now.has(room)) {
            return no(-1);
        }
        int refusal = mind(n);
        return refusal != 0 ? refusal : taped(taped, room, n);
    }

    private int taped(int taped, int room, int n) {
        State c = now.copy();
        for (int i = 0; i < n; i++) {
            c.minute(taped);
        }
        return c.strength.get(room);
    }

    int bestTape(int room, int n) {
        if (!now.has(room)) {
            return no(-1);
        }
        int refusal = mind(n);
        if (refusal != 0) {
            return refusal;
        }
        int best = now.rooms() - 1;
        for (int t = best; t >= 0; t--) {
            if (taped(t, room, n) <= taped(best, room, n)) {
                best = t;
            }
        }
        return best;
    }

    int bestDoor(int room, int n) {
        if (!now.has(room)) {
            return no(-1);
        }
        int refusal = mind(n);
        if (refusal != 0) {
            return refusal;
        }
        int least = now.behind(n).strength.get(room);
        int best = -9;
        for (int d = 1; d < 45; d++) {
            int a = d / 10;
            int b = d % 10;
            if (a < b && now.has(b) && !now.shut[a][b]) {
                State c = now.copy();
                c.shut[a][b] = true;
                c.shut[b][a] = true;
                int then = c.behind(n).strength.get(room);
                if (then < least) {
                    least = then;
                    best = d;
                }
            }
        }
        return best;
    }

    int row(int place) {
        if (!now.has(place) && place != 9) {
            return no(-1);
        }
        if (row.size() == 8) {
            return no(-6);
        }
        row.add(place);
        return row.size();
    }

    int clear() {
        int had = row.size();
        row.clear();
        return had;
    }

    private static int walk(State from, int nose, List<Integer> places) {
        State st = from.copy();
        st.said = false;
        int bits = 0;
        for (int i = 0; i < places.size(); i++) {
            if (i > 0) {
                st.minute(-1);
            }
            int[] n = st.noses.get(nose);
            int place = places.get(i);
            if (place == 9) {
                n[3] = Math.max(0, n[3] - 3);
            } else if (st.sniff(n, st.has(place) ? st.strength.get(place) : 0)) {
                bits += 1 << i;
            }
        }
        return bits;
    }

    private int oneAlone(int nose, int source, List<Integer> places) {
        State st = now.copy();
        st.strength.replaceAll(any -> 0);
        st.noses.get(nose)[3] = 0;
        st.minute = 0;
        st.sources = new ArrayList<>(List.of(st.sources.get(source)));
        return walk(st.behind(10), nose, places);
    }

    int says(int nose) {
        return noNose(nose) ? no(-1) : walk(now, nose, row);
    }

    int alone(int nose, int source) {
        return noNose(nose) || noSource(source) ? no(-1) : oneAlone(nose, source, row);
    }

    private int pairs(int nose, List<Integer> places) {
        int pairs = 0;
        List<Integer> bits = new ArrayList<>();
        for (int s = 0; s < now.sources.size(); s++) {
            int mine = oneAlone(nose, s, places);
            for (int theirs : bits) {
                pairs += mine == theirs ? 0 : 1;
            }
            bits.add(mine);
        }
        return pairs;
    }

    int apart(int nose) {
        return noNose(nose) ? no(-1) : pairs(nose, row);
    }

    int bestRound(int nose, int k, int what) {
        if (noNose(nose)) {
            return no(-1);
        }
        if (what != 0 && what != 1) {
            return no(-2);
        }
        if (k < 1) {
            return no(-4);
        }
        if (k > 3) {
            return no(-6);
        }
        int most = -1;
        int digits = 0;
        int zero = 0;
        for (int a = 0; a < now.rooms(); a++) {
            for (int b = zero; b < (k > 1 ? now.rooms() : 1); b++) {
                for (int c = zero; c < (k > 2 ? now.rooms() : 1); c++) {
                    int pairs = pairs(nose, List.of(a, b, c).subList(0, k));
                    if (pairs > most) {
                        most = pairs;
                        digits = a + 10 * b + 100 * c;
                    }
                }
            }
        }
        return what == 0 ? digits : most;
    }

    private BigInteger weight(int bits, int says) {
        BigInteger product = BigInteger.ONE;
        for (int i = 0; i < row.size(); i++) {
            if (row.get(i) != 9) {
                boolean right = (bits >> i) % 2 == (says >> i) % 2;
                product = product.multiply(BigInteger.valueOf(right ? 100 - now.settings[2] : now.settings[2]));
            }
        }
        return product;
    }

    private static long part(BigInteger above, BigInteger below, int part) {
        if (below.signum() == 0) {
            return part;
        }
        BigInteger gcd = above.gcd(below);
        return (part == 0 ? above : below).divide(gcd).longValueExact();
    }

    private int told(int nose, int says, int part) {
        if (noNose(nose)) {
            return no(-1);
        }
        return part != 0 && part != 1 ? no(-2) : says < 0 ? no(-4) : says > 255 ? no(-6) : 0;
    }

    private BigInteger all(int nose, int says) {
        BigInteger sum = BigInteger.ZERO;
        for (int s = 0; s < now.sources.size(); s++) {
            sum = sum.add(weight(oneAlone(nose, s, row), says));
        }
        return sum;
    }

    long odds(int source, int nose, int says, int part) {
        int refusal = noSource(source) ? no(-1) : told(nose, says, part);
        if (refusal != 0) {
            return 4000000000000000000L - refusal;
        }
        return part(weight(oneAlone(nose, source, row), says), all(nose, says), part);
    }

    long any(int nose, int says, int part) {
        int refusal = told(nose, says, part);
        if (refusal != 0) {
            return 4000000000000000000L - refusal;
        }
        BigInteger some = all(nose, says);
        return part(some, some.add(weight(0, says)), part);
    }

    int likely(int nose, int says) {
        int refusal = told(nose, says, 0);
        if (refusal != 0) {
            return refusal;
        }
        int best = -9;
        for (int s = now.sources.size() - 1; s >= 0; s--) {
            BigInteger mine = weight(oneAlone(nose, s, row), says);
            if (mine.signum() > 0
                    && (best < 0 || mine.compareTo(weight(oneAlone(nose, best, row), says)) >= 0)) {
                best = s;
            }
        }
        return best;
    }

    int mouse(int source, int what) {
        if (noSource(source)) {
            return no(-1);
        }
        if (what != 0 && what != 1) {
            return no(-2);
        }
        int[] s = now.sources.get(source);
        if (s[0] != 4) {
            return no(-3);
        }
        // Looked for among all minutes that matter, the first most and the last that gives.
        int most = 0;
        int last = -1;
        for (int t = 0; t < 40; t++) {
            if (now.gives(s, t) > now.gives(s, most)) {
                most = t;
            }
            if (now.gives(s, t) > 0) {
                last = t;
            }
        }
        return Math.max(0, (what == 0 ? most : last + 1) - now.minute);
    }

    int seeds(int n, int z) {
        if (n < 1) {
            return no(-4);
        }
        if (n > 50) {
            return no(-6);
        }
        State then = now.copy();
        int drawn = z;
        for (int i = 0; i < n; i++) {
            drawn = drawn * 1103515245 + 12345;
            then.settings[0] = (drawn & Integer.MAX_VALUE) / 65536 % 4;
            then.minute(-1);
        }
        return then.strength.stream().mapToInt(Integer::intValue).sum();
    }

    int image() {
        image = now.copy();
        return now.minute;
    }

    int restore() {
        if (image == null) {
            return no(-3);
        }
        now = image.copy();
        return now.minute;
    }

    int count(int what) {
        if (what >= 11 && what <= 16) {
            return refusals[what - 10];
        }
        int shut = 0;
        for (int a = 0; a < now.rooms(); a++) {
            for (int b = 0; b < a; b++) {
                shut += now.shut[a][b] ? 1 : 0;
            }
        }
        int all = now.strength.stream().mapToInt(Integer::intValue).sum();
        int[] counts = {now.rooms(), now.sources.size(), now.noses.size(), now.minute, all,
            letters.length(), row.size(), shut};
        return what >= 0 && what <= 7 ? counts[what] : -9;
    }
}
