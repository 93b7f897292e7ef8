import java.util.Arrays;

/** A smell in the house: the face looks at what it is told, the classes inside it do the work. */
public final class SmellInTheHouse {
    private static final int NOBODY = -1;
    private static final int OTHER = -2;
    private static final int STATE = -3;
    private static final int BELOW = -4;
    private static final int ABOVE = -6;
    private static final int NONE = -9;
    private static final int REFUSALS_MOST = 6;
    private static final int SHARE_REFUSED = 1000000000;
    private static final long LONG_REFUSED = 4000000000000000000L;

    private static final int ROOMS_LEAST = 2;
    private static final int ROOMS_MOST = 5;
    private static final int SOURCES_MOST = 5;
    private static final int NOSES_MOST = 4;
    private static final int PLACES_MOST = 8;
    private static final int LETTERS_MOST = 72;
    private static final int LETTER_GREATEST = 255;
    private static final int SAYS_MOST = 255;
    private static final int STRENGTH_MOST = 9999;
    private static final int MINUTE_MOST = 9999;
    private static final int GO_MOST = 99;
    private static final int MIND_MOST = 200;
    private static final int SEEDS_MOST = 50;
    private static final int BEST_PLACES_MOST = 3;
    private static final int OUTSIDE = 9;

    private static final int WIND = 0;
    private static final int DANGER = 1;
    private static final int SLIP = 2;
    private static final int[] SETTING_LEAST = {0, 1, 0};
    private static final int[] SETTING_MOST = {3, 999, 50};

    private final House now = new House();
    private final House kept = new House();
    private final House draft = new House();
    private boolean hasImage = false;
    private final Letters letters = new Letters();
    private final Round round = new Round();
    private final Air air = new Air();
    private final Walker walker = new Walker();
    private final Rounds rounds = new Rounds();
    private final int[] refusals = new int[REFUSALS_MOST + 1];

    public SmellInTheHouse() {
    }

    public int feed(int letter) {
        int refusal = beyond(letter, 0, LETTER_GREATEST);
        if (refusal == 0 && !letters.take(letter)) {
            refusal = ABOVE;
        }
        return refusal != 0 ? refuse(refusal) : letters.count;
    }

    public int house() {
        int answer = readHouse();
        letters.count = 0;
        return answer;
    }

    public int room(int room, int what) {
        int refusal = !now.hasRoom(room) ? NOBODY : among(what, 2);
        if (refusal != 0) {
            return refuse(refusal);
        }
        return what == 0 ? now.strength[room] : now.out[room];
    }

    public int flow(int from, int to, int what) {
        int refusal = !now.hasPair(from, to) ? NOBODY : among(what, 2);
        if (refusal != 0) {
            return refuse(refusal);
        }
        return what == 0 ? now.flow[pair(from, to)] : now.shut[pair(from, to)];
    }

    public int source(int source, int what) {
        int refusal = !now.sources.has(source) ? NOBODY : among(what, 6);
        if (refusal != 0) {
            return refuse(refusal);
        }
        switch (what) {
            case 0: return now.sources.kind[source];
            case 1: return now.sources.place[source];
            case 2: return now.sources.strong[source];
            case 3: return now.sources.figure[source];
            case 4: return now.sources.given(source, now.minute, now.setting[WIND]);
            default: return now.sources.target(source, now.rooms);
        }
    }

    public int nose(int nose, int what) {
        int refusal = !now.noses.has(nose) ? NOBODY : among(what, 5);
        if (refusal != 0) {
            return refuse(refusal);
        }
        switch (what) {
            case 0: return now.noses.kind[nose];
            case 1: return now.noses.line[nose];
            case 2: return now.noses.tires[nose];
            case 3: return now.noses.tired[nose];
            default: return now.noses.least(nose);
        }
    }

    public int set(int what, int v) {
        int refusal = among(what, SETTING_MOST.length);
        if (refusal == 0) {
            refusal = beyond(v, SETTING_LEAST[what], SETTING_MOST[what]);
        }
        if (refusal != 0) {
            return refuse(refusal);
        }
        int was = now.setting[what];
        now.setting[what] = v;
        return was;
    }

    public int fill(int room, int v) {
        int refusal = !now.hasRoom(room) ? NOBODY : beyond(v, 0, STRENGTH_MOST);
        if (refusal != 0) {
            return refuse(refusal);
        }
        int was = now.strength[room];
        now.strength[room] = v;
        return was;
    }

    public int door(int one, int other, boolean shut) {
        if (!now.hasPair(one, other)) {
            return refuse(NOBODY);
        }
        int told = shut ? 1 : 0;
        if (now.shut[pair(one, other)] == told) {
            return 0;
        }
        now.turnDoor(one, other);
        return 1;
    }

    public int go(int n) {
        int refusal = beyond(n, 1, GO_MOST);
        if (refusal == 0 && now.minute + n > MINUTE_MOST) {
            refusal = ABOVE;
        }
        if (refusal != 0) {
            return refuse(refusal);
        }
        air.startNow(now);
        air.pass(now, n);
        System.arraycopy(air.strength, 0, now.strength, 0, ROOMS_MOST);
        now.minute = air.minute;
        return now.minute;
    }

    public int sniff(int nose, int room) {
        if (!now.noses.has(nose) || !now.hasRoom(room)) {
            return refuse(NOBODY);
        }
        walker.start(now.noses.tired[nose], now.said);
        int says = walker.sniffOnce(now.noses, nose, now.strength[room]);
        now.noses.tired[nose] = walker.tired;
        now.said = walker.said;
        return says;
    }

    public int outside(int nose) {
        if (!now.noses.has(nose)) {
            return refuse(NOBODY);
        }
        walker.start(now.noses.tired[nose], now.said);
        walker.mend();
        now.noses.tired[nose] = walker.tired;
        return walker.tired;
    }

    public int behind(int room, int n) {
        int refusal = roomBehind(room, n);
        if (refusal != 0) {
            return refuse(refusal);
        }
        air.startNow(now);
        air.pass(now, n);
        return air.strength[room];
    }

    public int strongest(int n, int what) {
        int refusal = among(what, 2);
        if (refusal == 0) {
            refusal = beyond(n, 0, MIND_MOST);
        }
        if (refusal != 0) {
            return refuse(refusal);
        }
        air.startNow(now);
        air.pass(now, n);
        return what == 0 ? air.strongestRoom(now) : air.pullingRoom(now);
    }

    public int when(int room, int much) {
        int refusal = !now.hasRoom(room) ? NOBODY : beyond(much, 0, STRENGTH_MOST);
        if (refusal != 0) {
            return refuse(refusal);
        }
        air.startNow(now);
        for (int n = 0; n <= MIND_MOST; n++) {
            if (air.strength[room] >= much) {
                return n;
            }
            air.passMinute(now);
        }
        return NONE;
    }

    public int call() {
        air.startNow(now);
        for (int n = 0; n <= MIND_MOST; n++) {
            if (air.strength[air.strongestRoom(now)] >= now.setting[DANGER]) {
                return n;
            }
            air.passMinute(now);
        }
        return NONE;
    }

    public int still() {
        air.startNow(now);
        for (int n = 0; n < MIND_MOST; n++) {
            air.remember();
            air.passMinute(now);
            if (air.isAsRemembered()) {
                return n;
            }
        }
        return NONE;
    }

    public int share(int source, int room, int n) {
        int refusal = !now.sources.has(source) ? NOBODY : roomBehind(room, n);
        if (refusal != 0) {
            return SHARE_REFUSED - refuse(refusal);
        }
        air.startNow(now);
        air.pass(now, n);
        int with = air.strength[room];
        air.startNow(now);
        air.leaveOut(source);
        air.pass(now, n);
        return with - air.strength[room];
    }

    public int tape(int taped, int room, int n) {
        int refusal = !now.hasRoom(taped) ? NOBODY : roomBehind(room, n);
        return refusal != 0 ? refuse(refusal) : air.behindTape(now, taped, room, n);
    }

    public int bestTape(int room, int n) {
        int refusal = roomBehind(room, n);
        if (refusal != 0) {
            return refuse(refusal);
        }
        int best = 0;
        int least = air.behindTape(now, 0, room, n);
        for (int taped = 1; taped < now.rooms; taped++) {
            int strength = air.behindTape(now, taped, room, n);
            if (strength < least) {
                least = strength;
                best = taped;
            }
        }
        return best;
    }

    public int bestDoor(int room, int n) {
        int refusal = roomBehind(room, n);
        if (refusal != 0) {
            return refuse(refusal);
        }
        int best = NONE;
        air.startNow(now);
        air.pass(now, n);
        int least = air.strength[room];
        for (int one = 0; one < now.rooms; one++) {
            for (int other = one + 1; other < now.rooms; other++) {
                boolean open = now.shut[pair(one, other)] == 0;
                int strength = open ? air.behindDoor(now, one, other, room, n) : least;
                if (strength < least) {
                    least = strength;
                    best = 10 * one + other;
                }
            }
        }
        return best;
    }

    public int row(int place) {
        if (place != OUTSIDE && !now.hasRoom(place)) {
            return refuse(NOBODY);
        }
        return round.take(place) ? round.count : refuse(ABOVE);
    }

    public int clear() {
        int had = round.count;
        round.count = 0;
        return had;
    }

    public int says(int nose) {
        return now.noses.has(nose) ? rounds.bitsNow(now, round, nose) : refuse(NOBODY);
    }

    public int alone(int nose, int source) {
        if (!now.noses.has(nose) || !now.sources.has(source)) {
            return refuse(NOBODY);
        }
        rounds.walkAlone(now, round, nose);
        return rounds.bits[source];
    }

    public int apart(int nose) {
        if (!now.noses.has(nose)) {
            return refuse(NOBODY);
        }
        rounds.walkAlone(now, round, nose);
        return rounds.unlikePairs(now.sources.count);
    }

    public int bestRound(int nose, int k, int what) {
        int refusal = !now.noses.has(nose) ? NOBODY : among(what, 2);
        if (refusal == 0) {
            refusal = beyond(k, 1, BEST_PLACES_MOST);
        }
        if (refusal != 0) {
            return refuse(refusal);
        }
        rounds.seekBest(now, nose, k);
        return what == 0 ? rounds.bestDigits : rounds.bestApart;
    }

    public long odds(int source, int nose, int says, int part) {
        int refusal = !now.sources.has(source) ? NOBODY : told(nose, says, part);
        if (refusal != 0) {
            return LONG_REFUSED - refuse(refusal);
        }
        rounds.walkAlone(now, round, nose);
        long all = rounds.weighAll(now, round, says);
        return inLeastTerms(rounds.weight[source], all, part);
    }

    public long any(int nose, int says, int part) {
        int refusal = told(nose, says, part);
        if (refusal != 0) {
            return LONG_REFUSED - refuse(refusal);
        }
        rounds.walkAlone(now, round, nose);
        long some = rounds.weighAll(now, round, says);
        long none = round.weigh(0, says, now.setting[SLIP]);
        return inLeastTerms(some, some + none, part);
    }

    public int likely(int nose, int says) {
        int refusal = told(nose, says, 0);
        if (refusal != 0) {
            return refuse(refusal);
        }
        rounds.walkAlone(now, round, nose);
        rounds.weighAll(now, round, says);
        return rounds.heaviest(now.sources.count);
    }

    public int mouse(int source, int what) {
        int refusal = !now.sources.has(source) ? NOBODY : among(what, 2);
        if (refusal == 0 && now.sources.kind[source] != Sources.DYING) {
            refusal = STATE;
        }
        if (refusal != 0) {
            return refuse(refusal);
        }
        int at = what == 0 ? now.sources.minuteOfMost(source) : now.sources.minuteOfNone(source);
        return Math.max(0, at - now.minute);
    }

    public int seeds(int n, int z) {
        int refusal = beyond(n, 1, SEEDS_MOST);
        if (refusal != 0) {
            return refuse(refusal);
        }
        air.startNow(now);
        int drawn = z;
        for (int i = 0; i < n; i++) {
            drawn = drawn * 1103515245 + 12345;
            air.wind = ((drawn & 0x7fffffff) >> 16) % 4;
            air.passMinute(now);
        }
        return total(air.strength);
    }

    public int image() {
        kept.copyFrom(now);
        hasImage = true;
        return now.minute;
    }

    public int restore() {
        if (!hasImage) {
            return refuse(STATE);
        }
        now.copyFrom(kept);
        return now.minute;
    }

    public int count(int what) {
        switch (what) {
            case 0: return now.rooms;
            case 1: return now.sources.count;
            case 2: return now.noses.count;
            case 3: return now.minute;
            case 4: return total(now.strength);
            case 5: return letters.count;
            case 6: return round.count;
            // A shut door stands at both of its pairs.
            case 7: return total(now.shut) / 2;
            default: return what > 10 && what <= 10 + REFUSALS_MOST ? refusals[what - 10] : NONE;
        }
    }

    private int refuse(int refusal) {
        int place = -refusal;
        if (place > 0 && place < refusals.length) {
            refusals[place]++;
        }
        return refusal;
    }

    private int roomBehind(int room, int n) {
        return !now.hasRoom(room) ? NOBODY : beyond(n, 0, MIND_MOST);
    }

    private int told(int nose, int says, int part) {
        if (!now.noses.has(nose)) {
            return NOBODY;
        }
        int refusal = among(part, 2);
        return refusal != 0 ? refusal : beyond(says, 0, SAYS_MOST);
    }

    private int readHouse() {
        int fault = letters.faultOfForm();
        if (fault >= 0) {
            return -1000 - fault;
        }
        draft.copyFrom(now);
        int start = 0;
        int statements = 0;
        while (start < letters.count && statements < LETTERS_MOST) {
            int end = letters.endOf(start);
            if (end < start || !takeStatement(start + 1, end)) {
                return -2000 - start;
            }
            start = end + 1;
            statements++;
        }
        now.copyFrom(draft);
        return statements;
    }

    private boolean takeStatement(int first, int end) {
        int a = letters.digit(first);
        int b = letters.digit(first + 1);
        int c = letters.digit(first + 2);
        switch (letters.at(first - 1)) {
            case 'n': return draft.takeRooms(a);
            case 'f': return draft.takeFlow(a, b, c);
            case 'o': return draft.takeOut(a, b);
            case 's': return draft.takeSource(a, b, c, letters.number(first + 3, end));
            case 'e': return draft.takeNose(a, b, letters.number(first + 2, end));
            default: return draft.turnDoor(a, b);
        }
    }

    private static int beyond(int v, int least, int most) {
        return v < least ? BELOW : v > most ? ABOVE : 0;
    }

    private static int among(int what, int many) {
        return what >= 0 && what < many ? 0 : OTHER;
    }

    private static int pair(int from, int to) {
        return from * ROOMS_MOST + to;
    }

    private static int total(int[] row) {
        int sum = 0;
        for (int v : row) {
            sum += v;
        }
        return sum;
    }

    private static long inLeastTerms(long above, long below, int part) {
        if (above <= 0 || below <= 0) {
            return part;
        }
        long divisor = commonDivisor(above, below);
        if (divisor <= 0) {
            return part;
        }
        return (part == 0 ? above : below) / divisor;
    }

    private static long commonDivisor(long one, long other) {
        long a = one;
        long b = other;
        // Euclid halves a long in two steps at the most: 200 are more than it ever needs.
        for (int step = 0; step < 200 && b != 0; step++) {
            long rest = a % b;
            a = b;
            b = rest;
        }
        return a;
    }

    /** All that an image keeps. */
    private static final class House {
        int rooms = ROOMS_LEAST;
        int minute = 0;
        int said = 0;
        final int[] strength = new int[ROOMS_MOST];
        final int[] out = new int[ROOMS_MOST];
        final int[] flow = new int[ROOMS_MOST * ROOMS_MOST];
        final int[] shut = new int[ROOMS_MOST * ROOMS_MOST];
        final int[] setting = {0, 200, 10};
        final Sources sources = new Sources();
        final Noses noses = new Noses();

        House() {
            Arrays.fill(out, 1);
        }

        boolean hasRoom(int room) {
            return room >= 0 && room < rooms;
        }

        boolean hasPair(int one, int other) {
            return hasRoom(one) && hasRoom(other) && one != other;
        }

        void copyFrom(House other) {
            rooms = other.rooms;
            minute = other.minute;
            said = other.said;
            System.arraycopy(other.strength, 0, strength, 0, strength.length);
            System.arraycopy(other.out, 0, out, 0, out.length);
            System.arraycopy(other.flow, 0, flow, 0, flow.length);
            System.arraycopy(other.shut, 0, shut, 0, shut.length);
            System.arraycopy(other.setting, 0, setting, 0, setting.length);
            sources.copyFrom(other.sources);
            noses.copyFrom(other.noses);
        }

        boolean takeRooms(int many) {
            if (many < rooms || many > ROOMS_MOST) {
                return false;
            }
            rooms = many;
            return true;
        }

        boolean takeFlow(int from, int to, int tenths) {
            if (!hasPair(from, to) || tenths < 0 || tenths > 4) {
                return false;
            }
            flow[pair(from, to)] = tenths;
            return true;
        }

        boolean takeOut(int room, int tenths) {
            if (!hasRoom(room) || tenths < 0 || tenths > 9) {
                return false;
            }
            out[room] = tenths;
            return true;
        }

        boolean takeSource(int kind, int room, int figure, int strong) {
            return hasRoom(room) && sources.take(kind, room, figure, strong);
        }

        boolean takeNose(int kind, int tires, int line) {
            return noses.take(kind, tires, line);
        }

        boolean turnDoor(int one, int other) {
            if (!hasPair(one, other)) {
                return false;
            }
            int turned = 1 - shut[pair(one, other)];
            shut[pair(one, other)] = turned;
            shut[pair(other, one)] = turned;
            return true;
        }
    }

    /** What gives, by kinds. */
    private static final class Sources {
        static final int STEADY = 1;
        static final int DAILY = 2;
        static final int WINDED = 3;
        static final int DYING = 4;
        static final int CARRIED = 5;
        static final int HIDDEN = 6;
        static final int KIND_MOST = 7;

        int count = 0;
        final int[] kind = new int[SOURCES_MOST];
        final int[] place = new int[SOURCES_MOST];
        final int[] strong = new int[SOURCES_MOST];
        final int[] figure = new int[SOURCES_MOST];

        boolean has(int source) {
            return source >= 0 && source < count;
        }

        void copyFrom(Sources other) {
            count = other.count;
            System.arraycopy(other.kind, 0, kind, 0, kind.length);
            System.arraycopy(other.place, 0, place, 0, place.length);
            System.arraycopy(other.strong, 0, strong, 0, strong.length);
            System.arraycopy(other.figure, 0, figure, 0, figure.length);
        }

        boolean take(int itsKind, int itsPlace, int itsFigure, int itsStrong) {
            if (count >= SOURCES_MOST || itsKind < 0 || itsKind > KIND_MOST) {
                return false;
            }
            kind[count] = itsKind;
            place[count] = itsPlace;
            figure[count] = itsFigure;
            strong[count] = itsStrong;
            count++;
            return true;
        }

        int given(int source, int minute, int wind) {
            if (!has(source)) {
                return 0;
            }
            int steady = strong[source];
            switch (kind[source]) {
                case STEADY: return steady;
                case DAILY: return minute % 10 == figure[source] ? steady : 0;
                case WINDED: return wind == figure[source] % 4 ? steady : 0;
                case DYING:
                    int peak = figure[source] + 1;
                    int age = minute <= peak ? minute : Math.max(0, 2 * peak - minute);
                    return peak > 0 ? steady * age / peak : 0;
                case CARRIED: return steady;
                case HIDDEN: return (steady + 1) / 2;
                default: return 0;
            }
        }

        int target(int source, int rooms) {
            if (!has(source)) {
                return 0;
            }
            if (kind[source] != CARRIED && kind[source] != HIDDEN) {
                return place[source];
            }
            return place[source] + 1 < rooms ? place[source] + 1 : 0;
        }

        boolean isGivingKind(int source) {
            return has(source) && kind[source] >= STEADY && kind[source] <= HIDDEN;
        }

        int minuteOfMost(int source) {
            return has(source) && strong[source] > 0 ? figure[source] + 1 : 0;
        }

        int minuteOfNone(int source) {
            int most = minuteOfMost(source);
            int minute = most;
            // It is 0 at twice the minute of the most at the latest.
            while (minute < 2 * most && given(source, minute, 0) > 0) {
                minute++;
            }
            return minute;
        }
    }

    /** Who sniffs, by kinds. */
    private static final class Noses {
        static final int KEEN = 1;
        static final int COLD = 2;
        static final int TRAINED = 3;
        static final int SAYER = 4;
        static final int KIND_MOST = 4;

        int count = 0;
        final int[] kind = new int[NOSES_MOST];
        final int[] line = new int[NOSES_MOST];
        final int[] tires = new int[NOSES_MOST];
        final int[] tired = new int[NOSES_MOST];

        boolean has(int nose) {
            return nose >= 0 && nose < count;
        }

        void copyFrom(Noses other) {
            count = other.count;
            System.arraycopy(other.kind, 0, kind, 0, kind.length);
            System.arraycopy(other.line, 0, line, 0, line.length);
            System.arraycopy(other.tires, 0, tires, 0, tires.length);
            System.arraycopy(other.tired, 0, tired, 0, tired.length);
        }

        boolean take(int itsKind, int itsTires, int itsLine) {
            if (count >= NOSES_MOST || itsKind < 0 || itsKind > KIND_MOST || itsTires < 1 || itsLine < 1) {
                return false;
            }
            kind[count] = itsKind;
            line[count] = itsLine;
            tires[count] = itsTires;
            tired[count] = 0;
            count++;
            return true;
        }

        int least(int nose) {
            if (!has(nose)) {
                return 0;
            }
            switch (kind[nose]) {
                case KEEN:
                case TRAINED: return (line[nose] + 1) / 2;
                case COLD: return 2 * line[nose];
                default: return line[nose];
            }
        }

        boolean smells(int nose, int strength, int tiredNow) {
            return has(nose) && strength >= least(nose) && (kind[nose] == TRAINED || tiredNow < tires[nose]);
        }

        boolean isSayer(int nose) {
            return has(nose) && kind[nose] == SAYER;
        }
    }

    /** The strengths in mind, and what is thought otherwise there than in the house. */
    private static final class Air {
        private static final int NO_ROOM = -1;
        private static final int NO_DOOR = -1;
        private static final int ALL = -1;

        final int[] strength = new int[ROOMS_MOST];
        private final int[] held = new int[ROOMS_MOST];
        private final int[] before = new int[ROOMS_MOST];
        int minute = 0;
        int wind = 0;
        private int giving = ALL;
        private int taped = NO_ROOM;
        private int shutPair = NO_DOOR;
        private int shutBack = NO_DOOR;

        void startNow(House house) {
            System.arraycopy(house.strength, 0, strength, 0, strength.length);
            minute = house.minute;
            wind = house.setting[WIND];
            giving = ALL;
            taped = NO_ROOM;
            shutPair = NO_DOOR;
            shutBack = NO_DOOR;
        }

        void startAlone(House house, int source) {
            startNow(house);
            Arrays.fill(strength, 0);
            minute = 0;
            giving = 1 << source;
        }

        void leaveOut(int source) {
            giving = ALL ^ (1 << source);
        }

        void remember() {
            System.arraycopy(strength, 0, before, 0, before.length);
        }

        boolean isAsRemembered() {
            for (int room = 0; room < ROOMS_MOST; room++) {
                if (strength[room] != before[room]) {
                    return false;
                }
            }
            return true;
        }

        void pass(House house, int n) {
            for (int i = 0; i < n; i++) {
                passMinute(house);
            }
        }

        void passMinute(House house) {
            giveAll(house);
            System.arraycopy(strength, 0, held, 0, held.length);
            Arrays.fill(strength, 0);
            for (int from = 0; from < house.rooms; from++) {
                spread(house, from);
            }
            for (int room = 0; room < house.rooms; room++) {
                strength[room] = Math.min(STRENGTH_MOST, strength[room]);
            }
            minute++;
        }

        private void giveAll(House house) {
            for (int source = 0; source < house.sources.count; source++) {
                int into = house.sources.target(source, house.rooms);
                if ((giving >> source & 1) == 1 && into != taped && house.hasRoom(into)) {
                    int more = strength[into] + house.sources.given(source, minute, wind);
                    strength[into] = Math.min(STRENGTH_MOST, more);
                }
            }
        }

        private void spread(House house, int from) {
            int left = held[from];
            for (int to = 0; to < house.rooms && left > 0; to++) {
                int way = pair(from, to);
                int tenths = house.flow[way];
                if (tenths > 0 && house.shut[way] == 0 && way != shutPair && way != shutBack) {
                    int moved = Math.min(left, tenths * held[from] / 10);
                    strength[to] += moved;
                    left -= moved;
                }
            }
            strength[from] += left - Math.min(left, house.out[from] * held[from] / 10);
        }

        int strongestRoom(House house) {
            int best = 0;
            for (int room = 1; room < house.rooms; room++) {
                if (strength[room] > strength[best]) {
                    best = room;
                }
            }
            return best;
        }

        int pullingRoom(House house) {
            int best = NONE;
            int most = 0;
            for (int room = 0; room < house.rooms; room++) {
                if (strength[room] > most && !isGivenInto(house, room)) {
                    most = strength[room];
                    best = room;
                }
            }
            return best;
        }

        private static boolean isGivenInto(House house, int room) {
            for (int source = 0; source < house.sources.count; source++) {
                if (house.sources.isGivingKind(source) && house.sources.target(source, house.rooms) == room) {
                    return true;
                }
            }
            return false;
        }

        int behindTape(House house, int tapedRoom, int room, int n) {
            startNow(house);
            taped = tapedRoom;
            pass(house, n);
            return house.hasRoom(room) ? strength[room] : 0;
        }

        int behindDoor(House house, int one, int other, int room, int n) {
            startNow(house);
            shutPair = pair(one, other);
            shutBack = pair(other, one);
            pass(house, n);
            return house.hasRoom(room) ? strength[room] : 0;
        }
    }

    /** The letters of a house that is being told. */
    private static final class Letters {
        final int[] text = new int[LETTERS_MOST];
        int count = 0;

        boolean take(int letter) {
            if (count >= LETTERS_MOST) {
                return false;
            }
            text[count] = letter;
            count++;
            return true;
        }

        /** The letter at a place; -1 at the end and behind it. */
        int at(int place) {
            return place >= 0 && place < count ? text[place] : -1;
        }

        boolean isDigit(int place) {
            return at(place) >= '0' && at(place) <= '9';
        }

        int digit(int place) {
            return isDigit(place) ? at(place) - '0' : 0;
        }

        /** The number of the one or two digits from a place up to the end. */
        int number(int from, int end) {
            return from + 1 < end ? 10 * digit(from) + digit(from + 1) : digit(from);
        }

        /** The place of the first letter with which no house can go on; -1 there is none. */
        int faultOfForm() {
            int start = 0;
            for (int statements = 0; statements == 0 || statements < LETTERS_MOST && start < count; statements++) {
                int end = endOf(start);
                if (end < 0) {
                    return -1 - end;
                }
                start = end + 1;
            }
            return -1;
        }

        /** The place of the ";" of the statement that starts here; or -1 less the place of its fault. */
        int endOf(int start) {
            int digits = digitsBehind(at(start));
            if (digits == 0) {
                return -1 - start;
            }
            int place = start + 1;
            for (int i = 0; i < digits; i++) {
                if (!isDigit(place)) {
                    return -1 - place;
                }
                place++;
            }
            if (endsInNumber(at(start)) && isDigit(place)) {
                place++;
            }
            return at(place) == ';' ? place : -1 - place;
        }

        /** How many digits there are at the least; 0 no statement starts so. */
        private static int digitsBehind(int letter) {
            switch (letter) {
                case 'n': return 1;
                case 'o':
                case 'x': return 2;
                case 'f':
                case 'e': return 3;
                case 's': return 4;
                default: return 0;
            }
        }

        private static boolean endsInNumber(int letter) {
            return letter == 's' || letter == 'e';
        }
    }

    /** Places to go to, one behind the other. */
    private static final class Round {
        final int[] place = new int[PLACES_MOST];
        int count = 0;

        boolean take(int itsPlace) {
            if (count >= PLACES_MOST) {
                return false;
            }
            place[count] = itsPlace;
            count++;
            return true;
        }

        /** How likely the bits are told so, in hundredths, those of all places multiplied. */
        long weigh(int bits, int toldBits, int slip) {
            long weight = 1;
            for (int i = 0; i < count; i++) {
                if (place[i] != OUTSIDE) {
                    weight *= ((bits ^ toldBits) >> i & 1) == 0 ? 100 - slip : slip;
                }
            }
            return weight;
        }
    }

    /** The strengths ahead of each place of a round, for each of several courses of the air. */
    private static final class Courses {
        private final int[] strength = new int[SOURCES_MOST * PLACES_MOST * ROOMS_MOST];

        void follow(House house, Air air, int course, int places) {
            for (int step = 0; step < places; step++) {
                if (step > 0) {
                    air.passMinute(house);
                }
                for (int room = 0; room < ROOMS_MOST; room++) {
                    int at = (course * PLACES_MOST + step) * ROOMS_MOST + room;
                    if (at >= 0 && at < strength.length) {
                        strength[at] = house.hasRoom(room) ? air.strength[room] : 0;
                    }
                }
            }
        }

        int strengthAt(int course, int step, int room) {
            int at = (course * PLACES_MOST + step) * ROOMS_MOST + room;
            return room >= 0 && room < ROOMS_MOST && at >= 0 && at < strength.length ? strength[at] : 0;
        }
    }

    /** One who sniffs: how tired it is and what was said ahead of it. */
    private static final class Walker {
        int tired = 0;
        int said = 0;

        void start(int itsTired, int saidAhead) {
            tired = itsTired;
            said = saidAhead;
        }

        int sniffOnce(Noses noses, int nose, int strength) {
            boolean smells = noses.smells(nose, strength, tired);
            tired = smells ? tired + 1 : Math.max(0, tired - 1);
            said = smells || noses.isSayer(nose) && said == 1 ? 1 : 0;
            return said;
        }

        void mend() {
            tired = Math.max(0, tired - 3);
        }

        int walk(Noses noses, int nose, Round round, Courses courses, int course) {
            int bits = 0;
            for (int step = 0; step < round.count; step++) {
                int place = round.place[step];
                if (place == OUTSIDE) {
                    mend();
                } else {
                    bits |= sniffOnce(noses, nose, courses.strengthAt(course, step, place)) << step;
                }
            }
            return bits;
        }
    }

    /** Rounds in mind: what they tell, and what that says of the sources. */
    private static final class Rounds {
        private static final int MINUTES_AHEAD = 10;

        final int[] bits = new int[SOURCES_MOST];
        final long[] weight = new long[SOURCES_MOST];
        int bestDigits = 0;
        int bestApart = 0;
        private final Air air = new Air();
        private final Courses courses = new Courses();
        private final Walker walker = new Walker();
        private final Round tried = new Round();

        int bitsNow(House house, Round round, int nose) {
            if (!house.noses.has(nose)) {
                return 0;
            }
            air.startNow(house);
            courses.follow(house, air, 0, round.count);
            walker.start(house.noses.tired[nose], 0);
            return walker.walk(house.noses, nose, round, courses, 0);
        }

        void walkAlone(House house, Round round, int nose) {
            followAlone(house, round.count);
            tellAlone(house, round, nose);
        }

        private void followAlone(House house, int places) {
            for (int source = 0; source < house.sources.count; source++) {
                air.startAlone(house, source);
                air.pass(house, MINUTES_AHEAD);
                courses.follow(house, air, source, places);
            }
        }

        private void tellAlone(House house, Round round, int nose) {
            for (int source = 0; source < house.sources.count; source++) {
                walker.start(0, 0);
                bits[source] = walker.walk(house.noses, nose, round, courses, source);
            }
        }

        int unlikePairs(int sources) {
            int pairs = 0;
            for (int one = 0; one < sources; one++) {
                for (int other = one + 1; other < sources; other++) {
                    if (bits[one] != bits[other]) {
                        pairs++;
                    }
                }
            }
            return pairs;
        }

        void seekBest(House house, int nose, int places) {
            bestApart = -1;
            tried.count = Math.min(places, PLACES_MOST);
            Arrays.fill(tried.place, 0);
            followAlone(house, tried.count);
            int ways = 1;
            for (int i = 0; i < tried.count; i++) {
                ways *= house.rooms;
            }
            for (int way = 0; way < ways; way++) {
                tellAlone(house, tried, nose);
                int pairs = unlikePairs(house.sources.count);
                if (pairs > bestApart) {
                    bestApart = pairs;
                    bestDigits = digitsOfTried();
                }
                turnToNext(house.rooms);
            }
        }

        private int digitsOfTried() {
            int digits = 0;
            for (int i = tried.count - 1; i >= 0; i--) {
                digits = 10 * digits + tried.place[i];
            }
            return digits;
        }

        /** The last place turns first: so the rounds come by numbers from the first place on. */
        private void turnToNext(int rooms) {
            for (int i = tried.count - 1; i >= 0; i--) {
                tried.place[i]++;
                if (tried.place[i] < rooms) {
                    return;
                }
                tried.place[i] = 0;
            }
        }

        long weighAll(House house, Round round, int toldBits) {
            long all = 0;
            for (int source = 0; source < house.sources.count; source++) {
                weight[source] = round.weigh(bits[source], toldBits, house.setting[SLIP]);
                all += weight[source];
            }
            return all;
        }

        int heaviest(int sources) {
            int best = NONE;
            long most = 0;
            for (int source = 0; source < sources; source++) {
                if (weight[source] > most) {
                    most = weight[source];
                    best = source;
                }
            }
            return best;
        }
    }
}
