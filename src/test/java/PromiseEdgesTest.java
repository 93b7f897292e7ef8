/** Each promise, word by word: the least and the greatest that it takes, the first beyond, in which order it refuses. */
public final class PromiseEdgesTest {
    private static final Due DUE = new Due("PromiseEdgesTest");
    private static final Refused REFUSED = new Refused(DUE);
    private static final int LEAST = Integer.MIN_VALUE;
    private static final int MOST = Integer.MAX_VALUE;
    private static final long SHARES = 1000000000;
    private static final long LONGS = 4000000000000000000L;

    public static void main(String[] args) {
        newObject();
        feed();
        house();
        room();
        flow();
        source();
        nose();
        set();
        fill();
        door();
        go();
        goAtLast();
        sniff();
        outside();
        behind();
        strongest();
        when();
        callAndStill();
        share();
        tape();
        bestTape();
        bestDoor();
        row();
        clear();
        says();
        alone();
        apart();
        bestRound();
        odds();
        any();
        likely();
        mouse();
        seeds();
        image();
        restore();
        count();
        theImage();
        allThatThereIs();
        refusals();
        DUE.end();
    }

    private static SmellInTheHouse rich() {
        return Refused.rich();
    }

    private static void newObject() {
        DUE.sentence("`SmellInTheHouse()`: Two ROOMS, no SOURCES, no NOSES.");
        SmellInTheHouse x = new SmellInTheHouse();
        DUE.is("rooms", x.count(0), 2);
        DUE.is("room 0", x.room(0, 0), 0);
        DUE.is("room 1", x.room(1, 0), 0);
        DUE.is("sources", x.count(1), 0);
        DUE.is("noses", x.count(2), 0);
        DUE.is("all else", x.count(3) + x.count(4) + x.count(5) + x.count(6) + x.count(7), 0);
        for (int what = 11; what <= 16; what++) {
            DUE.is("refusals " + what, x.count(what), 0);
        }
        DUE.is("room 2", x.room(2, 0), -1);
        DUE.is("source 0", x.source(0, 0), -1);
        DUE.is("nose 0", x.nose(0, 0), -1);
        DUE.is("no image", x.restore(), -3);
    }

    private static void feed() {
        DUE.sentence("`int feed(int letter)`: A letter comes: how many there are. -4; -6 (255; 72, too).");
        SmellInTheHouse x = rich();
        DUE.is("0", x.feed(0), 5);
        DUE.is("255", x.feed(255), 6);
        REFUSED.is("-1", y -> y.feed(-1), -4, -4);
        REFUSED.is("the least int", y -> y.feed(LEAST), -4, -4);
        REFUSED.is("256", y -> y.feed(256), -6, -6);
        REFUSED.is("the greatest int", y -> y.feed(MOST), -6, -6);
        x = new SmellInTheHouse();
        for (int i = 1; i <= 72; i++) {
            DUE.is("letter " + i, x.feed(0), i);
        }
        DUE.is("letter 73", x.feed(0), -6);
        DUE.is("letter 73, too great too", x.feed(256), -6);
        DUE.is("letter 73, too small", x.feed(-1), -4);
        DUE.is("72 still", x.count(5), 72);
        REFUSED.isThen("a letter more", PromiseEdgesTest::fillUp, y -> y.feed('n'), -6, -6);
        REFUSED.isThen("a letter more, too small", PromiseEdgesTest::fillUp, y -> y.feed(-1), -4, -4);
    }

    private static void fillUp(SmellInTheHouse x) {
        Due.feed(x, "o28;".repeat(17));
        DUE.is("full", x.count(5), 72);
    }

    private static void house() {
        DUE.sentence("`int house()`: The letters, which are no more then (with a FAULT neither), are a HOUSE:"
                + " how many STATEMENTS; the FAULT (nothing is counted).");
        SmellInTheHouse x = new SmellInTheHouse();
        DUE.is("1 statement", Due.tell(x, "n2;"), 1);
        DUE.is("no letters then", x.count(5), 0);
        DUE.is("24 statements", Due.tell(x, "n2;".repeat(24)), 24);
        DUE.is("a fault of form", Due.tell(x, "n2;n"), -1004);
        DUE.is("no letters then either", x.count(5), 0);
        DUE.is("a fault of sense", Due.tell(x, "n2;n0;"), -2003);
        DUE.is("no letters then either", x.count(5), 0);
        DUE.is("no letters", x.house(), -1000);
        for (int what = 11; what <= 16; what++) {
            DUE.is("nothing is counted " + what, x.count(what), 0);
        }
    }

    private static void room() {
        DUE.sentence("`int room(int room, int what)`: Of a ROOM: STRENGTH (what 0), OUT (1). -1; -2.");
        SmellInTheHouse x = rich();
        DUE.is("strength", x.room(3, 0), 70);
        DUE.is("out of the first", x.room(0, 1), 5);
        DUE.is("out of the last", x.room(3, 1), 1);
        REFUSED.is("room -1", y -> y.room(-1, 0), -1, -1);
        REFUSED.is("room 4", y -> y.room(4, 0), -1, -1);
        REFUSED.is("the least room", y -> y.room(LEAST, 1), -1, -1);
        REFUSED.is("the greatest room", y -> y.room(MOST, 1), -1, -1);
        REFUSED.is("what -1", y -> y.room(0, -1), -2, -2);
        REFUSED.is("what 2", y -> y.room(3, 2), -2, -2);
        REFUSED.is("the least what", y -> y.room(0, LEAST), -2, -2);
        REFUSED.is("the greatest what", y -> y.room(0, MOST), -2, -2);
        REFUSED.is("both", y -> y.room(4, 2), -1, -1);
    }

    private static void flow() {
        DUE.sentence("`int flow(int from, int to, int what)`: FLOW (what 0), whether the DOOR is SHUT (1; 1, 0)."
                + " -1 either (one twice, too); -2.");
        SmellInTheHouse x = rich();
        DUE.is("flow", x.flow(2, 3, 0), 4);
        DUE.is("flow back", x.flow(3, 2, 0), 0);
        DUE.is("shut", x.flow(1, 2, 1), 1);
        DUE.is("shut back", x.flow(2, 1, 1), 1);
        DUE.is("open", x.flow(0, 1, 1), 0);
        REFUSED.is("from -1", y -> y.flow(-1, 0, 0), -1, -1);
        REFUSED.is("from 4", y -> y.flow(4, 0, 0), -1, -1);
        REFUSED.is("to -1", y -> y.flow(0, -1, 0), -1, -1);
        REFUSED.is("to 4", y -> y.flow(0, 4, 1), -1, -1);
        REFUSED.is("the least and the greatest", y -> y.flow(LEAST, MOST, 1), -1, -1);
        REFUSED.is("0 twice", y -> y.flow(0, 0, 0), -1, -1);
        REFUSED.is("3 twice", y -> y.flow(3, 3, 1), -1, -1);
        REFUSED.is("what -1", y -> y.flow(0, 3, -1), -2, -2);
        REFUSED.is("what 2", y -> y.flow(3, 0, 2), -2, -2);
        REFUSED.is("all", y -> y.flow(4, 4, 2), -1, -1);
        REFUSED.is("one twice and what", y -> y.flow(0, 0, 2), -1, -1);
    }

    private static void source() {
        DUE.sentence("`int source(int source, int what)`: Of a SOURCE: KIND (what 0), ROOM (1), STRONG (2), FIGURE (3),"
                + " what it GIVES now (4), into which ROOM (5). -1; -2.");
        SmellInTheHouse x = rich();
        long[] last = new long[6];
        long[] mouse = new long[6];
        for (int what = 0; what <= 5; what++) {
            last[what] = x.source(3, what);
            mouse[what] = x.source(2, what);
        }
        DUE.are("the last", last, 5, 0, 20, 0, 20, 1);
        // Minute 4 of figure 4: four fifths of 30.
        DUE.are("the mouse", mouse, 4, 1, 30, 4, 24, 1);
        REFUSED.is("source -1", y -> y.source(-1, 0), -1, -1);
        REFUSED.is("source 4", y -> y.source(4, 0), -1, -1);
        REFUSED.is("the least source", y -> y.source(LEAST, 4), -1, -1);
        REFUSED.is("the greatest source", y -> y.source(MOST, 5), -1, -1);
        REFUSED.is("what -1", y -> y.source(0, -1), -2, -2);
        REFUSED.is("what 6", y -> y.source(3, 6), -2, -2);
        REFUSED.is("the least what", y -> y.source(0, LEAST), -2, -2);
        REFUSED.is("the greatest what", y -> y.source(0, MOST), -2, -2);
        REFUSED.is("both", y -> y.source(4, 6), -1, -1);
    }

    private static void nose() {
        DUE.sentence("`int nose(int nose, int what)`: Of a NOSE: KIND (what 0), LINE (1), TIRES (2), TIRED (3),"
                + " from which STRENGTH on it SMELLS untired (4). -1; -2.");
        SmellInTheHouse x = rich();
        long[] first = new long[5];
        long[] last = new long[5];
        for (int what = 0; what <= 4; what++) {
            first[what] = x.nose(0, what);
            last[what] = x.nose(1, what);
        }
        DUE.are("the first", first, 0, 10, 3, 1, 10);
        DUE.are("the last", last, 4, 10, 2, 1, 10);
        REFUSED.is("nose -1", y -> y.nose(-1, 0), -1, -1);
        REFUSED.is("nose 2", y -> y.nose(2, 0), -1, -1);
        REFUSED.is("the least nose", y -> y.nose(LEAST, 0), -1, -1);
        REFUSED.is("the greatest nose", y -> y.nose(MOST, 0), -1, -1);
        REFUSED.is("what -1", y -> y.nose(0, -1), -2, -2);
        REFUSED.is("what 5", y -> y.nose(1, 5), -2, -2);
        REFUSED.is("the least what", y -> y.nose(0, LEAST), -2, -2);
        REFUSED.is("the greatest what", y -> y.nose(0, MOST), -2, -2);
        REFUSED.is("both", y -> y.nose(2, 5), -1, -1);
    }

    private static void set() {
        DUE.sentence("`int set(int what, int v)`: A SETTING: what it was. -2; -4; -6.");
        int[] was = {2, 150, 20};
        int[] least = {0, 1, 0};
        int[] most = {3, 999, 50};
        for (int i = 0; i < 3; i++) {
            int what = i;
            SmellInTheHouse x = rich();
            DUE.is(what + ", the least", x.set(what, least[what]), was[what]);
            DUE.is(what + ", the greatest", x.set(what, most[what]), least[what]);
            DUE.is(what + ", that", x.set(what, most[what]), most[what]);
            REFUSED.is(what + " below", y -> y.set(what, least[what] - 1), -4, -4);
            REFUSED.is(what + " far below", y -> y.set(what, LEAST), -4, -4);
            REFUSED.is(what + " above", y -> y.set(what, most[what] + 1), -6, -6);
            REFUSED.is(what + " far above", y -> y.set(what, MOST), -6, -6);
        }
        REFUSED.is("what -1", y -> y.set(-1, 1), -2, -2);
        REFUSED.is("what 3", y -> y.set(3, 1), -2, -2);
        REFUSED.is("the least what, below", y -> y.set(LEAST, LEAST), -2, -2);
        REFUSED.is("the greatest what, above", y -> y.set(MOST, MOST), -2, -2);
    }

    private static void fill() {
        DUE.sentence("`int fill(int room, int v)`: STRENGTH of a ROOM becomes v: what it was. -1; -4; -6 9999.");
        SmellInTheHouse x = rich();
        DUE.is("0", x.fill(3, 0), 70);
        DUE.is("9999", x.fill(3, 9999), 0);
        DUE.is("that", x.fill(3, 1), 9999);
        REFUSED.is("room -1", y -> y.fill(-1, 1), -1, -1);
        REFUSED.is("room 4", y -> y.fill(4, 1), -1, -1);
        REFUSED.is("-1", y -> y.fill(3, -1), -4, -4);
        REFUSED.is("the least", y -> y.fill(0, LEAST), -4, -4);
        REFUSED.is("10000", y -> y.fill(3, 10000), -6, -6);
        REFUSED.is("the greatest", y -> y.fill(0, MOST), -6, -6);
        REFUSED.is("room 4, -1", y -> y.fill(4, -1), -1, -1);
        REFUSED.is("room -1, 10000", y -> y.fill(-1, 10000), -1, -1);
    }

    private static void door() {
        DUE.sentence("`int door(int one, int other, boolean shut)`: A DOOR is SHUT, or open: 1; 0 it was so."
                + " -1 either (one twice, too).");
        SmellInTheHouse x = rich();
        DUE.is("shut", x.door(0, 3, true), 1);
        DUE.is("it was shut", x.door(0, 3, true), 0);
        DUE.is("it was shut, the other way", x.door(3, 0, true), 0);
        DUE.is("open, the other way", x.door(3, 0, false), 1);
        DUE.is("it was open", x.door(0, 3, false), 0);
        DUE.is("no others", x.count(7), 2);
        for (int i = 0; i < 2; i++) {
            boolean shut = i == 0;
            REFUSED.is("one -1", y -> y.door(-1, 0, shut), -1, -1);
            REFUSED.is("one 4", y -> y.door(4, 0, shut), -1, -1);
            REFUSED.is("other -1", y -> y.door(0, -1, shut), -1, -1);
            REFUSED.is("other 4", y -> y.door(0, 4, shut), -1, -1);
            REFUSED.is("0 twice", y -> y.door(0, 0, shut), -1, -1);
            REFUSED.is("3 twice", y -> y.door(3, 3, shut), -1, -1);
            REFUSED.is("4 twice", y -> y.door(4, 4, shut), -1, -1);
            REFUSED.is("the least and the greatest", y -> y.door(LEAST, MOST, shut), -1, -1);
        }
    }

    private static void go() {
        DUE.sentence("`int go(int n)`: n MINUTES (1 .. 99) go by: MINUTE. -4; -6 (99; MINUTE above 9999 then).");
        SmellInTheHouse x = rich();
        DUE.is("1", x.go(1), 5);
        DUE.is("99", x.go(99), 104);
        REFUSED.is("0", y -> y.go(0), -4, -4);
        REFUSED.is("-1", y -> y.go(-1), -4, -4);
        REFUSED.is("the least", y -> y.go(LEAST), -4, -4);
        REFUSED.is("100", y -> y.go(100), -6, -6);
        REFUSED.is("the greatest", y -> y.go(MOST), -6, -6);
    }

    private static void goAtLast() {
        DUE.sentence("MINUTE above 9999 then");
        SmellInTheHouse x = Due.house("s10050;");
        for (int i = 0; i < 100; i++) {
            x.go(99);
        }
        DUE.is("minute 9901", x.go(1), 9901);
        DUE.is("10000", x.go(99), -6);
        DUE.is("minute 9901 still", x.count(3), 9901);
        DUE.is("9999", x.go(98), 9999);
        int strength = x.room(0, 0);
        DUE.is("10000, by one", x.go(1), -6);
        DUE.is("0 is below", x.go(0), -4);
        DUE.is("minute 9999 still", x.count(3), 9999);
        DUE.is("nothing went by", x.room(0, 0), strength);
        DUE.is("two refusals -6", x.count(16), 2);
        DUE.is("one refusal -4", x.count(14), 1);
        DUE.is("the image", x.image(), 9999);
        DUE.is("the mouse is no more", Due.tell(x, "s40999;"), 1);
        DUE.is("till most", x.mouse(1, 0), 0);
        DUE.is("till none", x.mouse(1, 1), 0);
    }

    private static void sniff() {
        DUE.sentence("`int sniff(int nose, int room)`: A NOSE SNIFFS in a ROOM: what it SAYS. -1 either.");
        SmellInTheHouse x = rich();
        DUE.is("the first in the last room", x.sniff(0, 3), 1);
        x.fill(3, 9);
        DUE.is("the first, none", x.sniff(0, 3), 0);
        DUE.is("the last in the last room, by nobody", x.sniff(1, 3), 0);
        REFUSED.is("nose -1", y -> y.sniff(-1, 3), -1, -1);
        REFUSED.is("nose 2", y -> y.sniff(2, 3), -1, -1);
        REFUSED.is("room -1", y -> y.sniff(0, -1), -1, -1);
        REFUSED.is("room 4", y -> y.sniff(1, 4), -1, -1);
        REFUSED.is("room 9 is no room", y -> y.sniff(1, 9), -1, -1);
        REFUSED.is("the least and the greatest", y -> y.sniff(LEAST, MOST), -1, -1);
    }

    private static void outside() {
        DUE.sentence("`int outside(int nose)`: It is outside: TIRED then. -1.");
        SmellInTheHouse x = rich();
        for (int i = 0; i < 2; i++) {
            x.sniff(0, 3);
        }
        DUE.is("tired 3", x.outside(0), 0);
        DUE.is("tired 0", x.outside(0), 0);
        DUE.is("tired 1", x.outside(1), 0);
        REFUSED.is("nose -1", y -> y.outside(-1), -1, -1);
        REFUSED.is("nose 2", y -> y.outside(2), -1, -1);
        REFUSED.is("the least", y -> y.outside(LEAST), -1, -1);
        REFUSED.is("the greatest", y -> y.outside(MOST), -1, -1);
    }

    private static void behind() {
        DUE.sentence("`int behind(int room, int n)`: BEHIND. -1; -4; -6 200.");
        SmellInTheHouse x = rich();
        DUE.is("0", x.behind(3, 0), 70);
        DUE.is("1", x.behind(3, 1), 63);
        // What comes from 2 is none: that has nothing.
        DUE.is("200", x.behind(3, 200), 9);
        REFUSED.is("room -1", y -> y.behind(-1, 0), -1, -1);
        REFUSED.is("room 4", y -> y.behind(4, 0), -1, -1);
        REFUSED.is("-1", y -> y.behind(3, -1), -4, -4);
        REFUSED.is("the least", y -> y.behind(0, LEAST), -4, -4);
        REFUSED.is("201", y -> y.behind(3, 201), -6, -6);
        REFUSED.is("the greatest", y -> y.behind(0, MOST), -6, -6);
        REFUSED.is("room 4, -1", y -> y.behind(4, -1), -1, -1);
        REFUSED.is("room -1, 201", y -> y.behind(-1, 201), -1, -1);
    }

    private static void strongest() {
        DUE.sentence("`int strongest(int n, int what)`: The STRONGEST ROOM (what 0), PULLS (1; -9). -2; -4; -6 200.");
        SmellInTheHouse x = rich();
        // 72 in 0, 105 in 1.
        DUE.is("0", x.strongest(0, 0), 1);
        DUE.is("0, pulls", x.strongest(0, 1), 3);
        DUE.is("200, pulls", x.strongest(200, 1), 3);
        DUE.is("200 is among the rooms", x.strongest(200, 0) >= 0 && x.strongest(200, 0) <= 3 ? 1 : 0, 1);
        x.fill(3, 0);
        DUE.is("none pulls", x.strongest(0, 1), -9);
        DUE.is("-9 is no refusal", x.count(11) + x.count(12) + x.count(13) + x.count(14) + x.count(16), 0);
        REFUSED.is("what -1", y -> y.strongest(0, -1), -2, -2);
        REFUSED.is("what 2", y -> y.strongest(0, 2), -2, -2);
        REFUSED.is("-1", y -> y.strongest(-1, 0), -4, -4);
        REFUSED.is("the least", y -> y.strongest(LEAST, 1), -4, -4);
        REFUSED.is("201", y -> y.strongest(201, 1), -6, -6);
        REFUSED.is("the greatest", y -> y.strongest(MOST, 0), -6, -6);
        REFUSED.is("-1, what 2", y -> y.strongest(-1, 2), -2, -2);
        REFUSED.is("201, what -1", y -> y.strongest(201, -1), -2, -2);
    }

    private static void when() {
        DUE.sentence("`int when(int room, int much)`: WHEN; -9. -1; -4 below 0; -6 9999.");
        SmellInTheHouse x = rich();
        DUE.is("0", x.when(3, 0), 0);
        DUE.is("70", x.when(3, 70), 0);
        DUE.is("71", x.when(3, 71), -9);
        DUE.is("9999", x.when(3, 9999), -9);
        REFUSED.is("room -1", y -> y.when(-1, 0), -1, -1);
        REFUSED.is("room 4", y -> y.when(4, 0), -1, -1);
        REFUSED.is("-1", y -> y.when(3, -1), -4, -4);
        REFUSED.is("the least", y -> y.when(0, LEAST), -4, -4);
        REFUSED.is("10000", y -> y.when(3, 10000), -6, -6);
        REFUSED.is("the greatest", y -> y.when(0, MOST), -6, -6);
        REFUSED.is("room 4, -1", y -> y.when(4, -1), -1, -1);
        REFUSED.is("room -1, 10000", y -> y.when(-1, 10000), -1, -1);
    }

    private static void callAndStill() {
        DUE.sentence("`int call()`: CALL; -9.");
        SmellInTheHouse x = Due.house("o00;s1001;");
        DUE.is("200", x.call(), 200);
        x.set(1, 201);
        DUE.is("-9", x.call(), -9);
        DUE.sentence("`int still()`: STILL; -9.");
        DUE.is("-9", x.still(), -9);
        x.fill(0, 9800);
        DUE.is("199", x.still(), 199);
        DUE.is("-9 is no refusal", x.count(11) + x.count(12) + x.count(13) + x.count(14) + x.count(16), 0);
    }

    private static void share() {
        DUE.sentence("`int share(int source, int room, int n)`: SHARE. Refused as told: -1 either; -4; -6 200.");
        SmellInTheHouse x = rich();
        DUE.is("0", x.share(3, 1, 0), 0);
        DUE.is("the last behind 1", x.share(3, 1, 1), 12);
        DUE.is("the last behind 200, far off", x.share(3, 3, 200), 0);
        REFUSED.is("source -1", y -> y.share(-1, 0, 0), SHARES + 1, -1);
        REFUSED.is("source 4", y -> y.share(4, 0, 0), SHARES + 1, -1);
        REFUSED.is("room -1", y -> y.share(0, -1, 0), SHARES + 1, -1);
        REFUSED.is("room 4", y -> y.share(0, 4, 0), SHARES + 1, -1);
        REFUSED.is("-1", y -> y.share(3, 3, -1), SHARES + 4, -4);
        REFUSED.is("the least", y -> y.share(0, 0, LEAST), SHARES + 4, -4);
        REFUSED.is("201", y -> y.share(3, 3, 201), SHARES + 6, -6);
        REFUSED.is("the greatest", y -> y.share(0, 0, MOST), SHARES + 6, -6);
        REFUSED.is("source 4, -1", y -> y.share(4, 0, -1), SHARES + 1, -1);
        REFUSED.is("room 4, 201", y -> y.share(0, 4, 201), SHARES + 1, -1);
    }

    private static void tape() {
        DUE.sentence("`int tape(int taped, int room, int n)`: TAPE of a ROOM (taped) for another one or the same."
                + " -1 either; -4; -6 200.");
        SmellInTheHouse x = rich();
        DUE.is("0", x.tape(3, 3, 0), 70);
        DUE.is("the same", x.tape(3, 3, 1), 63);
        DUE.is("another one", x.tape(0, 3, 200), 9);
        REFUSED.is("taped -1", y -> y.tape(-1, 0, 0), -1, -1);
        REFUSED.is("taped 4", y -> y.tape(4, 0, 0), -1, -1);
        REFUSED.is("room -1", y -> y.tape(0, -1, 0), -1, -1);
        REFUSED.is("room 4", y -> y.tape(0, 4, 0), -1, -1);
        REFUSED.is("-1", y -> y.tape(3, 3, -1), -4, -4);
        REFUSED.is("the least", y -> y.tape(0, 0, LEAST), -4, -4);
        REFUSED.is("201", y -> y.tape(3, 3, 201), -6, -6);
        REFUSED.is("the greatest", y -> y.tape(0, 0, MOST), -6, -6);
        REFUSED.is("taped 4, -1", y -> y.tape(4, 0, -1), -1, -1);
        REFUSED.is("room 4, 201", y -> y.tape(0, 4, 201), -1, -1);
    }

    private static void bestTape() {
        DUE.sentence("`int bestTape(int room, int n)`: BEST TAPE. -1; -4; -6 200.");
        SmellInTheHouse x = rich();
        DUE.is("0", x.bestTape(3, 0), 0);
        DUE.is("200", x.bestTape(3, 200), 0);
        DUE.is("200, where something is given", x.bestTape(1, 200), 1);
        REFUSED.is("room -1", y -> y.bestTape(-1, 0), -1, -1);
        REFUSED.is("room 4", y -> y.bestTape(4, 0), -1, -1);
        REFUSED.is("-1", y -> y.bestTape(3, -1), -4, -4);
        REFUSED.is("the least", y -> y.bestTape(0, LEAST), -4, -4);
        REFUSED.is("201", y -> y.bestTape(3, 201), -6, -6);
        REFUSED.is("the greatest", y -> y.bestTape(0, MOST), -6, -6);
        REFUSED.is("room 4, -1", y -> y.bestTape(4, -1), -1, -1);
        REFUSED.is("room -1, 201", y -> y.bestTape(-1, 201), -1, -1);
    }

    private static void bestDoor() {
        DUE.sentence("`int bestDoor(int room, int n)`: BEST DOOR; -9. -1; -4; -6 200.");
        SmellInTheHouse x = rich();
        DUE.is("0", x.bestDoor(3, 0), -9);
        // Room 1 gets less than it gives to room 0.
        DUE.is("200", x.bestDoor(1, 200), -9);
        DUE.is("200, of room 0", x.bestDoor(0, 200), 1);
        DUE.is("-9 is no refusal", x.count(11) + x.count(12) + x.count(13) + x.count(14) + x.count(16), 0);
        REFUSED.is("room -1", y -> y.bestDoor(-1, 0), -1, -1);
        REFUSED.is("room 4", y -> y.bestDoor(4, 0), -1, -1);
        REFUSED.is("-1", y -> y.bestDoor(3, -1), -4, -4);
        REFUSED.is("the least", y -> y.bestDoor(0, LEAST), -4, -4);
        REFUSED.is("201", y -> y.bestDoor(3, 201), -6, -6);
        REFUSED.is("the greatest", y -> y.bestDoor(0, MOST), -6, -6);
        REFUSED.is("room 4, -1", y -> y.bestDoor(4, -1), -1, -1);
        REFUSED.is("room -1, 201", y -> y.bestDoor(-1, 201), -1, -1);
    }

    private static void row() {
        DUE.sentence("`int row(int place)`: A place more of the ROW (0 .. 9): how many."
                + " -1 a place that is no ROOM and not 9; -6 8.");
        SmellInTheHouse x = rich();
        DUE.is("0", x.row(0), 6);
        DUE.is("3", x.row(3), 7);
        DUE.is("9", x.row(9), 8);
        REFUSED.is("-1", y -> y.row(-1), -1, -1);
        for (int i = 4; i <= 8; i++) {
            int place = i;
            REFUSED.is("place " + place, y -> y.row(place), -1, -1);
        }
        REFUSED.is("10", y -> y.row(10), -1, -1);
        REFUSED.is("the least", y -> y.row(LEAST), -1, -1);
        REFUSED.is("the greatest", y -> y.row(MOST), -1, -1);
        REFUSED.isThen("a ninth", y -> Due.places(y, 0, 0, 0), y -> y.row(0), -6, -6);
        REFUSED.isThen("a ninth, outside", y -> Due.places(y, 0, 0, 0), y -> y.row(9), -6, -6);
        REFUSED.isThen("a ninth, no room", y -> Due.places(y, 0, 0, 0), y -> y.row(4), -1, -1);
    }

    private static void clear() {
        DUE.sentence("`int clear()`: The ROW has none then: how many it had.");
        SmellInTheHouse x = rich();
        DUE.is("5", x.clear(), 5);
        DUE.is("0", x.clear(), 0);
        DUE.is("none then", x.count(6), 0);
        Due.places(x, 9, 9, 9, 9, 9, 9, 9, 9, 9);
        DUE.is("8", x.clear(), 8);
        DUE.is("the first again", x.row(0), 1);
        DUE.is("it alone", x.says(0), 1);
    }

    private static void says() {
        DUE.sentence("`int says(int nose)`: SAYS of a NOSE on the ROUND. -1.");
        SmellInTheHouse x = rich();
        // Tires 3, tired 1: in 0, 3, then it mends, in 1, in 0.
        DUE.is("the first", x.says(0), 1 + 2 + 8 + 16);
        REFUSED.is("nose -1", y -> y.says(-1), -1, -1);
        REFUSED.is("nose 2", y -> y.says(2), -1, -1);
        REFUSED.is("the least", y -> y.says(LEAST), -1, -1);
        REFUSED.is("the greatest", y -> y.says(MOST), -1, -1);
    }

    private static void alone() {
        DUE.sentence("`int alone(int nose, int source)`: ONE ALONE. -1 either.");
        SmellInTheHouse x = rich();
        DUE.is("the first of the first", x.alone(0, 0), 1 + 8 + 16);
        REFUSED.is("nose -1", y -> y.alone(-1, 0), -1, -1);
        REFUSED.is("nose 2", y -> y.alone(2, 0), -1, -1);
        REFUSED.is("source -1", y -> y.alone(0, -1), -1, -1);
        REFUSED.is("source 4", y -> y.alone(0, 4), -1, -1);
        REFUSED.is("the least and the greatest", y -> y.alone(LEAST, MOST), -1, -1);
    }

    private static void apart() {
        DUE.sentence("`int apart(int nose)`: APART. -1.");
        SmellInTheHouse x = rich();
        int pairs = 0;
        for (int one = 0; one < 4; one++) {
            for (int other = 0; other < one; other++) {
                pairs += x.alone(1, one) != x.alone(1, other) ? 1 : 0;
            }
        }
        DUE.is("the last", x.apart(1), pairs);
        REFUSED.is("nose -1", y -> y.apart(-1), -1, -1);
        REFUSED.is("nose 2", y -> y.apart(2), -1, -1);
        REFUSED.is("the least", y -> y.apart(LEAST), -1, -1);
        REFUSED.is("the greatest", y -> y.apart(MOST), -1, -1);
    }

    private static void bestRound() {
        DUE.sentence("`int bestRound(int nose, int k, int what)`: BEST ROUND: the digits (what 0),"
                + " how many APART (1). -1; -2; -4; -6 3.");
        SmellInTheHouse x = Due.house("n5;s14099;s13099;s12099;e0910;");
        DUE.is("1", x.bestRound(0, 1, 0), 2);
        DUE.is("1, apart", x.bestRound(0, 1, 1), 2);
        DUE.is("3", x.bestRound(0, 3, 0), 320);
        DUE.is("3, apart", x.bestRound(0, 3, 1), 3);
        REFUSED.is("nose -1", y -> y.bestRound(-1, 1, 0), -1, -1);
        REFUSED.is("nose 2", y -> y.bestRound(2, 1, 0), -1, -1);
        REFUSED.is("what -1", y -> y.bestRound(0, 1, -1), -2, -2);
        REFUSED.is("what 2", y -> y.bestRound(1, 3, 2), -2, -2);
        REFUSED.is("0", y -> y.bestRound(0, 0, 0), -4, -4);
        REFUSED.is("the least", y -> y.bestRound(0, LEAST, 1), -4, -4);
        REFUSED.is("4", y -> y.bestRound(1, 4, 0), -6, -6);
        REFUSED.is("the greatest", y -> y.bestRound(0, MOST, 1), -6, -6);
        REFUSED.is("nose 2, 0, what 2", y -> y.bestRound(2, 0, 2), -1, -1);
        REFUSED.is("0, what 2", y -> y.bestRound(0, 0, 2), -2, -2);
        REFUSED.is("4, what -1", y -> y.bestRound(0, 4, -1), -2, -2);
        REFUSED.is("nose 2, 4", y -> y.bestRound(2, 4, 0), -1, -1);
    }

    private static void odds() {
        DUE.sentence("`long odds(int source, int nose, int says, int part)`: ODDS, part 0 above, 1 below the line."
                + " Refused as told: -1 either; -2; -4 says below 0; -6 above 255.");
        SmellInTheHouse x = Due.house("s10099;s11099;e0910;");
        x.row(0);
        DUE.is("0, above", x.odds(0, 0, 0, 0), 1);
        DUE.is("0, below", x.odds(0, 0, 0, 1), 10);
        DUE.is("255, above", x.odds(0, 0, 255, 0), 9);
        DUE.is("255, below", x.odds(1, 0, 255, 1), 10);
        REFUSED.is("source -1", y -> y.odds(-1, 0, 0, 0), LONGS + 1, -1);
        REFUSED.is("source 4", y -> y.odds(4, 0, 0, 0), LONGS + 1, -1);
        REFUSED.is("nose -1", y -> y.odds(0, -1, 0, 0), LONGS + 1, -1);
        REFUSED.is("nose 2", y -> y.odds(0, 2, 0, 1), LONGS + 1, -1);
        REFUSED.is("part -1", y -> y.odds(0, 0, 0, -1), LONGS + 2, -2);
        REFUSED.is("part 2", y -> y.odds(3, 1, 0, 2), LONGS + 2, -2);
        REFUSED.is("says -1", y -> y.odds(0, 0, -1, 0), LONGS + 4, -4);
        REFUSED.is("says the least", y -> y.odds(0, 0, LEAST, 1), LONGS + 4, -4);
        REFUSED.is("says 256", y -> y.odds(3, 1, 256, 0), LONGS + 6, -6);
        REFUSED.is("says the greatest", y -> y.odds(0, 0, MOST, 1), LONGS + 6, -6);
        REFUSED.is("source 4, -1, part 2", y -> y.odds(4, 0, -1, 2), LONGS + 1, -1);
        REFUSED.is("nose 2, 256, part 2", y -> y.odds(0, 2, 256, 2), LONGS + 1, -1);
        REFUSED.is("-1, part 2", y -> y.odds(0, 0, -1, 2), LONGS + 2, -2);
        REFUSED.is("256, part -1", y -> y.odds(0, 0, 256, -1), LONGS + 2, -2);
    }

    private static void any() {
        DUE.sentence("`long any(int nose, int says, int part)`: ANY, part 0 above, 1 below the line."
                + " Refused as told: -1; -2; -4 says below 0; -6 above 255.");
        SmellInTheHouse x = Due.house("s10099;e0910;");
        x.row(0);
        DUE.is("0, above", x.any(0, 0, 0), 1);
        DUE.is("0, below", x.any(0, 0, 1), 10);
        DUE.is("255, above", x.any(0, 255, 0), 9);
        DUE.is("255, below", x.any(0, 255, 1), 10);
        REFUSED.is("nose -1", y -> y.any(-1, 0, 0), LONGS + 1, -1);
        REFUSED.is("nose 2", y -> y.any(2, 0, 0), LONGS + 1, -1);
        REFUSED.is("part -1", y -> y.any(0, 0, -1), LONGS + 2, -2);
        REFUSED.is("part 2", y -> y.any(1, 0, 2), LONGS + 2, -2);
        REFUSED.is("says -1", y -> y.any(0, -1, 0), LONGS + 4, -4);
        REFUSED.is("says the least", y -> y.any(0, LEAST, 1), LONGS + 4, -4);
        REFUSED.is("says 256", y -> y.any(1, 256, 0), LONGS + 6, -6);
        REFUSED.is("says the greatest", y -> y.any(0, MOST, 1), LONGS + 6, -6);
        REFUSED.is("nose 2, -1, part 2", y -> y.any(2, -1, 2), LONGS + 1, -1);
        REFUSED.is("-1, part 2", y -> y.any(0, -1, 2), LONGS + 2, -2);
        REFUSED.is("256, part -1", y -> y.any(0, 256, -1), LONGS + 2, -2);
    }

    private static void likely() {
        DUE.sentence("`int likely(int nose, int says)`: LIKELY; -9. -1; -4; -6 255.");
        SmellInTheHouse x = Due.house("s10099;s11099;e0910;");
        x.row(0);
        DUE.is("0", x.likely(0, 0), 1);
        DUE.is("255", x.likely(0, 255), 0);
        x.set(2, 0);
        x.row(0);
        DUE.is("what cannot be", x.likely(0, 1), -9);
        DUE.is("-9 is no refusal", x.count(11) + x.count(12) + x.count(13) + x.count(14) + x.count(16), 0);
        REFUSED.is("nose -1", y -> y.likely(-1, 0), -1, -1);
        REFUSED.is("nose 2", y -> y.likely(2, 0), -1, -1);
        REFUSED.is("-1", y -> y.likely(0, -1), -4, -4);
        REFUSED.is("the least", y -> y.likely(0, LEAST), -4, -4);
        REFUSED.is("256", y -> y.likely(1, 256), -6, -6);
        REFUSED.is("the greatest", y -> y.likely(0, MOST), -6, -6);
        REFUSED.is("nose 2, -1", y -> y.likely(2, -1), -1, -1);
        REFUSED.is("nose -1, 256", y -> y.likely(-1, 256), -1, -1);
    }

    private static void mouse() {
        DUE.sentence("`int mouse(int source, int what)`: MOUSE: till most (what 0), till none (1)."
                + " -1; -2; -3 it is not of KIND 4.");
        SmellInTheHouse x = rich();
        // Minute 4 of figure 4.
        DUE.is("till most", x.mouse(2, 0), 1);
        DUE.is("till none", x.mouse(2, 1), 6);
        REFUSED.is("source -1", y -> y.mouse(-1, 0), -1, -1);
        REFUSED.is("source 4", y -> y.mouse(4, 0), -1, -1);
        REFUSED.is("what -1", y -> y.mouse(2, -1), -2, -2);
        REFUSED.is("what 2", y -> y.mouse(2, 2), -2, -2);
        REFUSED.is("steady", y -> y.mouse(0, 0), -3, -3);
        REFUSED.is("daily", y -> y.mouse(1, 1), -3, -3);
        REFUSED.is("carried", y -> y.mouse(3, 0), -3, -3);
        REFUSED.is("source 4, what 2", y -> y.mouse(4, 2), -1, -1);
        REFUSED.is("steady, what 2", y -> y.mouse(0, 2), -2, -2);
        for (int kind = 0; kind <= 7; kind++) {
            SmellInTheHouse one = Due.house("s" + kind + "0150;");
            DUE.is("kind " + kind, one.mouse(0, 0), kind == 4 ? 2 : -3);
            DUE.is("kind " + kind + ", till none", one.mouse(0, 1), kind == 4 ? 4 : -3);
            DUE.is("kind " + kind + ", refusals", one.count(13), kind == 4 ? 0 : 2);
        }
    }

    private static void seeds() {
        DUE.sentence("`int seeds(int n, int z)`: SEEDS. -4; -6 50.");
        SmellInTheHouse x = Due.house("o00;s10001;");
        DUE.is("1", x.seeds(1, LEAST), 1);
        DUE.is("50", x.seeds(50, MOST), 50);
        REFUSED.is("0", y -> y.seeds(0, 0), -4, -4);
        REFUSED.is("the least", y -> y.seeds(LEAST, 1), -4, -4);
        REFUSED.is("51", y -> y.seeds(51, -1), -6, -6);
        REFUSED.is("the greatest", y -> y.seeds(MOST, 1), -6, -6);
    }

    private static void image() {
        DUE.sentence("`int image()`: THE IMAGE is taken: MINUTE.");
        SmellInTheHouse x = rich();
        DUE.is("anew", x.image(), 4);
        x.go(3);
        DUE.is("restored", x.restore(), 4);
        DUE.is("again", x.image(), 4);
        DUE.is("of a new object", new SmellInTheHouse().image(), 0);
    }

    private static void restore() {
        DUE.sentence("`int restore()`: It is RESTORED: MINUTE. -3 there is none.");
        SmellInTheHouse x = new SmellInTheHouse();
        DUE.is("none", x.restore(), -3);
        DUE.is("refusals -3", x.count(13), 1);
        x.fill(0, 5);
        x.image();
        x.fill(0, 6);
        x.go(9);
        DUE.is("restored", x.restore(), 0);
        DUE.is("strength", x.room(0, 0), 5);
        x.fill(0, 7);
        DUE.is("restored again", x.restore(), 0);
        DUE.is("strength again", x.room(0, 0), 5);
        DUE.is("refusals -3 still", x.count(13), 1);
    }

    private static void count() {
        DUE.sentence("`int count(int what)`: 0 ROOMS, 1 SOURCES, 2 NOSES, 3 MINUTE, 4 all STRENGTHS, 5 letters,"
                + " 6 in the ROW, 7 SHUT DOORS, 11 .. 16 REFUSALS -1 .. -6. -9 for another what.");
        SmellInTheHouse x = rich();
        long[] all = new long[8];
        for (int what = 0; what <= 7; what++) {
            all[what] = x.count(what);
        }
        long strengths = x.room(0, 0) + x.room(1, 0) + x.room(2, 0) + x.room(3, 0);
        DUE.are("all", all, 4, 4, 2, 4, strengths, 4, 5, 2);
        int[] others = {8, 9, 10, 17, 18, -1, -11, LEAST, MOST};
        for (int what : others) {
            DUE.is("what " + what, x.count(what), -9);
        }
        x = new SmellInTheHouse();
        x.room(9, 0);
        x.room(0, 9);
        x.room(0, 9);
        x.restore();
        x.restore();
        x.restore();
        for (int i = 0; i < 4; i++) {
            x.feed(-1);
        }
        for (int i = 0; i < 6; i++) {
            x.feed(256);
        }
        long[] refusals = new long[6];
        for (int what = 11; what <= 16; what++) {
            refusals[what - 11] = x.count(what);
        }
        DUE.are("refusals", refusals, 1, 2, 3, 4, 0, 6);
        x = Due.house("n5;x01;x02;x03;x04;x12;x13;x14;x23;x24;x34;");
        DUE.is("all doors", x.count(7), 10);
        for (int room = 0; room < 5; room++) {
            x.fill(room, 9999);
        }
        DUE.is("all strengths", x.count(4), 49995);
    }

    private static void theImage() {
        DUE.sentence("THE IMAGE: all that there is, but it, letters, the ROW, REFUSALS.");
        SmellInTheHouse x = rich();
        x.room(9, 9);
        DUE.is("restored", x.restore(), 1);
        DUE.is("rooms", x.count(0), 4);
        DUE.is("sources", x.count(1), 4);
        DUE.is("noses", x.count(2), 0);
        DUE.is("minute", x.count(3), 1);
        DUE.is("shut doors", x.count(7), 1);
        DUE.is("which", x.flow(0, 2, 1), 1);
        // Given 50 into 0, of that 2 tenths to 1 and 5 tenths out, and 20 into 1, of that 3 tenths to 0.
        DUE.are("strengths", Due.strengths(x), 50 - 10 - 25 + 6, 20 - 6 - 2 + 10, 0, 0);
        DUE.is("wind", x.set(0, 1), 0);
        DUE.is("danger", x.set(1, 1), 200);
        DUE.is("slip", x.set(2, 1), 10);
        DUE.is("letters stay", x.count(5), 4);
        DUE.is("the row stays", x.count(6), 5);
        DUE.is("refusals stay", x.count(11), 1);
        DUE.is("the letters are what they were", x.house(), 1);
        DUE.is("out by them", x.room(2, 1), 9);
        DUE.is("the image stays", x.restore(), 1);
        DUE.is("without the letters", x.room(2, 1), 1);
        DUE.is("its wind", x.set(0, 0), 0);
        DUE.is("a sayer more", Due.tell(x, "e4910;"), 1);
        DUE.is("nobody had said so then", x.sniff(0, 3), 0);
    }

    private static void allThatThereIs() {
        DUE.sentence("all that there is");
        SmellInTheHouse x = Due.house("n3;f012;o05;s10050;e0310;e4210;x12;");
        x.go(4);
        x.set(0, 3);
        x.set(1, 7);
        x.set(2, 8);
        x.fill(2, 60);
        x.sniff(0, 2);
        x.sniff(1, 2);
        x.sniff(1, 2);
        DUE.is("taken", x.image(), 4);
        Due.tell(x, "n4;f014;f303;o09;o38;s22220;e3110;x12;x03;");
        x.go(3);
        x.set(0, 1);
        x.set(1, 2);
        x.set(2, 3);
        x.fill(2, 1);
        x.sniff(0, 1);
        x.outside(1);
        x.sniff(1, 2);
        DUE.is("nobody says so", x.sniff(0, 2), 0);
        DUE.is("restored", x.restore(), 4);
        long[] counts = {x.count(0), x.count(1), x.count(2), x.count(3), x.count(7)};
        DUE.are("rooms, sources, noses, minute, doors", counts, 3, 1, 2, 4, 1);
        // Of 50, 65, 70 and 71 go 2 tenths to 1 and 5 tenths out: 15, 20, 21 and 22 stay.
        DUE.is("strength of 0", x.room(0, 0), 22);
        DUE.is("strength of 2", x.room(2, 0), 60);
        DUE.are("outs", new long[] {x.room(0, 1), x.room(2, 1)}, 5, 1);
        DUE.are("flows", new long[] {x.flow(0, 1, 0), x.flow(1, 0, 0)}, 2, 0);
        DUE.are("doors", new long[] {x.flow(1, 2, 1), x.flow(0, 1, 1)}, 1, 0);
        DUE.are("tired", new long[] {x.nose(0, 3), x.nose(1, 3)}, 1, 2);
        DUE.are("settings", new long[] {x.set(0, 0), x.set(1, 1), x.set(2, 0)}, 3, 7, 8);
        DUE.is("the last one said so", x.sniff(1, 1), 1);
        Due.tell(x, "n4;e0910;s1000;");
        DUE.are("a room that comes again", new long[] {x.room(3, 0), x.room(3, 1), x.flow(3, 0, 0), x.flow(0, 3, 1)},
                0, 1, 0, 0);
        DUE.is("a nose that comes again", x.nose(2, 3), 0);
        DUE.is("a source that comes again", x.source(1, 3), 0);
    }

    private static void refusals() {
        DUE.sentence("REFUSALS (the call answers the number, the first that fits in the order in which it tells them;"
                + " nothing changes but how many there were):");
        REFUSED.is("the first that fits", y -> y.bestRound(9, 9, 9), -1, -1);
        REFUSED.is("the second, if the first does not", y -> y.bestRound(0, 9, 9), -2, -2);
        REFUSED.is("the last, if none else does", y -> y.bestRound(0, 9, 0), -6, -6);
        DUE.sentence("-1 NOBODY: no such ROOM, SOURCE, NOSE.");
        REFUSED.is("no room", y -> y.room(4, 0), -1, -1);
        REFUSED.is("no source", y -> y.source(4, 0), -1, -1);
        REFUSED.is("no nose", y -> y.nose(2, 0), -1, -1);
        DUE.sentence("-2 OTHER: what.");
        REFUSED.is("what 3", y -> y.set(3, 0), -2, -2);
        DUE.sentence("-3 STATE: it is not as told.");
        REFUSED.is("no mouse", y -> y.mouse(0, 0), -3, -3);
        DUE.sentence("-4 BELOW: a number below the least.");
        REFUSED.is("0 minutes", y -> y.go(0), -4, -4);
        DUE.sentence("-6 ROOM: a number above the greatest, no room.");
        REFUSED.is("100 minutes", y -> y.go(100), -6, -6);
        REFUSED.isThen("no room for a letter", PromiseEdgesTest::fillUp, y -> y.feed('n'), -6, -6);
        DUE.sentence("Of share() 1000000000 less them (-1 as 1000000001);");
        REFUSED.is("share, -1", y -> y.share(4, 0, 0), 1000000001, -1);
        REFUSED.is("share, -4", y -> y.share(0, 0, -1), 1000000004, -4);
        REFUSED.is("share, -6", y -> y.share(0, 0, 201), 1000000006, -6);
        DUE.sentence("of longs 4000000000000000000 less them (-1 as 4000000000000000001).");
        REFUSED.is("odds, -1", y -> y.odds(4, 0, 0, 0), 4000000000000000001L, -1);
        REFUSED.is("odds, -2", y -> y.odds(0, 0, 0, 2), 4000000000000000002L, -2);
        REFUSED.is("any, -4", y -> y.any(0, -1, 0), 4000000000000000004L, -4);
        REFUSED.is("any, -6", y -> y.any(0, 256, 0), 4000000000000000006L, -6);
    }
}
