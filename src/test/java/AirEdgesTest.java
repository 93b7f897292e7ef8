/** Each sentence of the Terms on rooms, settings, sources and the minutes, at its edges. */
public final class AirEdgesTest {
    private static final Due DUE = new Due("AirEdgesTest");

    public static void main(String[] args) {
        rooms();
        strengths();
        outs();
        flows();
        doors();
        wind();
        danger();
        slip();
        minuteAtFirst();
        sourcesAsTheyCome();
        sourceKinds();
        sourceNumbers();
        smell();
        steady();
        daily();
        winded();
        dying();
        ages();
        carried();
        hidden();
        thought();
        givenAtMost();
        atOnce();
        flowsAreCut();
        flowsByNumbers();
        outsAreCut();
        noMoreThanIsLeft();
        comesAtMost();
        minuteIsOneMore();
        DUE.end();
    }

    private static void rooms() {
        DUE.sentence("ROOMS 0 .. (2 .. 5 of them; 2 at first)");
        SmellInTheHouse x = new SmellInTheHouse();
        DUE.is("at first", x.count(0), 2);
        DUE.is("the greatest room of 2", x.room(1, 0), 0);
        DUE.is("beyond 2 rooms", x.room(2, 0), -1);
        DUE.is("below the first room", x.room(-1, 0), -1);
        DUE.is("1 room", Due.tell(x, "n1;"), -2000);
        DUE.is("2 rooms", Due.tell(x, "n2;"), 1);
        DUE.is("5 rooms", Due.tell(x, "n5;"), 1);
        DUE.is("the greatest room of 5", x.room(4, 0), 0);
        DUE.is("beyond 5 rooms", x.room(5, 0), -1);
        DUE.is("6 rooms", Due.tell(x, "n6;"), -2000);
        DUE.is("5 still", x.count(0), 5);
        DUE.is("6 rooms at once", Due.tell(new SmellInTheHouse(), "n6;"), -2000);
    }

    private static void strengths() {
        DUE.sentence("each has a STRENGTH (0 .. 9999; 0 at first)");
        SmellInTheHouse x = Due.house("n5;");
        DUE.are("at first", Due.strengths(x), 0, 0, 0, 0, 0);
        for (int room = 0; room < 5; room++) {
            DUE.is("10000 in " + room, x.fill(room, 10000), -6);
            DUE.is("9999 in " + room, x.fill(room, 9999), 0);
            DUE.is("there is 9999 in " + room, x.room(room, 0), 9999);
            DUE.is("-1 in " + room, x.fill(room, -1), -4);
            DUE.is("0 in " + room, x.fill(room, 0), 9999);
            DUE.is("there is 0 in " + room, x.room(room, 0), 0);
        }
    }

    private static void outs() {
        DUE.sentence("OUT (0 .. 9 tenths; 1 at first).");
        SmellInTheHouse x = Due.house("n5;");
        for (int room = 0; room < 5; room++) {
            DUE.is("at first of " + room, x.room(room, 1), 1);
        }
        DUE.is("0 and 9", Due.tell(x, "o00;o49;"), 2);
        DUE.is("0", x.room(0, 1), 0);
        DUE.is("9", x.room(4, 1), 9);
        x.fill(0, 1000);
        x.fill(1, 1000);
        x.fill(4, 1000);
        DUE.are("tenths", Due.behind(x, 1), 1000, 900, 0, 0, 100);
        DUE.is("the sign below 0", Due.tell(x, "o0/;"), -1002);
        DUE.is("the sign above 9", Due.tell(x, "o0:;"), -1002);
        DUE.is("10", Due.tell(x, "o010;"), -1003);
    }

    private static void flows() {
        DUE.sentence("FLOW from a ROOM to another one (0 .. 4 tenths; 0 at first).");
        SmellInTheHouse x = Due.house("n5;");
        for (int from = 0; from < 5; from++) {
            for (int to = 0; to < 5; to++) {
                DUE.is("at first " + from + " to " + to, x.flow(from, to, 0), from == to ? -1 : 0);
            }
        }
        DUE.is("4", Due.tell(x, "f014;"), 1);
        DUE.is("4 then", x.flow(0, 1, 0), 4);
        DUE.is("5", Due.tell(x, "f015;"), -2000);
        DUE.is("9", Due.tell(x, "f019;"), -2000);
        DUE.is("4 still", x.flow(0, 1, 0), 4);
        DUE.is("not back", x.flow(1, 0, 0), 0);
        x.fill(0, 1000);
        DUE.are("tenths", Due.behind(x, 1), 500, 400, 0, 0, 0);
        DUE.is("0", Due.tell(x, "f010;"), 1);
        DUE.is("0 then", x.flow(0, 1, 0), 0);
        DUE.is("to itself", Due.tell(x, "f001;"), -2000);
    }

    private static void doors() {
        DUE.sentence("A DOOR between two ROOMS is open (at first) or SHUT.");
        SmellInTheHouse x = Due.house("n5;");
        for (int one = 0; one < 5; one++) {
            for (int other = 0; other < 5; other++) {
                DUE.is("at first " + one + " " + other, x.flow(one, other, 1), one == other ? -1 : 0);
            }
        }
        DUE.is("shut", x.door(3, 4, true), 1);
        DUE.is("it is so from the one", x.flow(3, 4, 1), 1);
        DUE.is("it is so from the other", x.flow(4, 3, 1), 1);
        DUE.is("it alone", x.count(7), 1);
        DUE.is("open", x.door(4, 3, false), 1);
        DUE.is("it is so then", x.flow(3, 4, 1), 0);
    }

    private static void wind() {
        DUE.sentence("SETTINGS: 0 WIND (0 .. 3; 0)");
        setting(0, 0, 0, 3);
    }

    private static void danger() {
        DUE.sentence("1 DANGER (1 .. 999; 200)");
        setting(1, 200, 1, 999);
    }

    private static void slip() {
        DUE.sentence("2 SLIP (0 .. 50 hundredths; 10).");
        setting(2, 10, 0, 50);
    }

    private static void setting(int what, int first, int least, int most) {
        SmellInTheHouse x = new SmellInTheHouse();
        DUE.is("below the least", x.set(what, least - 1), -4);
        DUE.is("above the greatest", x.set(what, most + 1), -6);
        DUE.is("at first", x.set(what, least), first);
        DUE.is("the least", x.set(what, most), least);
        DUE.is("the greatest", x.set(what, first), most);
        DUE.is("as at first", x.set(what, first), first);
    }

    private static void minuteAtFirst() {
        DUE.sentence("MINUTE (0 at first).");
        SmellInTheHouse x = new SmellInTheHouse();
        DUE.is("at first", x.count(3), 0);
        DUE.is("in the image", x.image(), 0);
        DUE.is("restored", x.restore(), 0);
    }

    private static void sourcesAsTheyCome() {
        DUE.sentence("SOURCES 0 .. 4 as they come");
        SmellInTheHouse x = new SmellInTheHouse();
        DUE.is("none at first", x.source(0, 0), -1);
        DUE.is("two", Due.tell(x, "s10011;s10012;"), 2);
        DUE.is("no third", x.source(2, 2), -1);
        DUE.is("three more", Due.tell(x, "s10013;s10014;s10015;"), 3);
        for (int source = 0; source < 5; source++) {
            DUE.is("source " + source, x.source(source, 2), 11 + source);
        }
        DUE.is("source -1", x.source(-1, 2), -1);
        DUE.is("source 5", x.source(5, 2), -1);
        DUE.is("a sixth", Due.tell(x, "s10016;"), -2000);
        DUE.is("five still", x.count(1), 5);
        DUE.is("six at once", Due.tell(new SmellInTheHouse(), "s1001;".repeat(6)), -2030);
    }

    private static void sourceKinds() {
        DUE.sentence("of KINDS: 0 SMELL; 1 STEADY under SMELL; 2 DAILY under STEADY; 3 WINDED under STEADY;"
                + " 4 DYING under STEADY; 5 CARRIED under STEADY; 6 HIDDEN under CARRIED; 7 THOUGHT under SMELL:");
        // In minute 2, without wind, of 40 and figure 2.
        int[] gives = {0, 40, 40, 0, 26, 40, 20, 0};
        for (int kind = 0; kind <= 7; kind++) {
            SmellInTheHouse x = Due.house("s" + kind + "0240;");
            x.go(2);
            DUE.is("kind " + kind, x.source(0, 0), kind);
            DUE.is("what kind " + kind + " gives", x.source(0, 4), gives[kind]);
        }
        DUE.is("kind 8", Due.tell(new SmellInTheHouse(), "s80240;"), -2000);
        DUE.is("kind 9", Due.tell(new SmellInTheHouse(), "s90240;"), -2000);
    }

    private static void sourceNumbers() {
        DUE.sentence("a ROOM, a STRONG (0 .. 99), a FIGURE (0 .. 9).");
        SmellInTheHouse x = new SmellInTheHouse();
        DUE.is("the least", Due.tell(x, "s1000;"), 1);
        DUE.is("the least in two digits", Due.tell(x, "s10000;"), 1);
        DUE.is("the greatest", Due.tell(x, "s11999;"), 1);
        long[] room = {x.source(0, 1), x.source(1, 1), x.source(2, 1)};
        long[] strong = {x.source(0, 2), x.source(1, 2), x.source(2, 2)};
        long[] figure = {x.source(0, 3), x.source(1, 3), x.source(2, 3)};
        DUE.are("rooms", room, 0, 0, 1);
        DUE.are("strong", strong, 0, 0, 99);
        DUE.are("figures", figure, 0, 0, 9);
        DUE.is("no such room", Due.tell(x, "s1200;"), -2000);
        DUE.is("100", Due.tell(x, "s100100;"), -1006);
        DUE.is("a sign below 0 for a figure", Due.tell(x, "s10/1;"), -1003);
        DUE.is("a sign above 9 for a figure", Due.tell(x, "s10:1;"), -1003);
    }

    /** What a source gives in each minute from 0 on. */
    private static long[] gives(String source, int minutes) {
        SmellInTheHouse x = Due.house(source);
        long[] all = new long[minutes];
        for (int t = 0; t < minutes; t++) {
            all[t] = x.source(0, 4);
            x.go(1);
        }
        return all;
    }

    /** The last minute there is: all calls of an object are 512. */
    private static SmellInTheHouse atTheLastMinute(String house) {
        SmellInTheHouse x = Due.house(house);
        for (int i = 0; i < 101; i++) {
            x.go(99);
        }
        DUE.is("the last minute", x.count(3), 9999);
        return x;
    }

    private static void smell() {
        DUE.sentence("What one GIVES in a MINUTE t: SMELL 0.");
        DUE.are("a smell", gives("s00099;", 3), 0, 0, 0);
        SmellInTheHouse x = Due.house("o00;s00099;");
        DUE.is("none comes", x.behind(0, 9), 0);
    }

    private static void steady() {
        DUE.sentence("STEADY its STRONG.");
        DUE.are("0", gives("s1000;", 3), 0, 0, 0);
        DUE.are("1", gives("s1001;", 3), 1, 1, 1);
        DUE.are("99", gives("s10099;", 3), 99, 99, 99);
        DUE.is("its figure is nothing to it", gives("s10999;", 3)[2], 99);
        DUE.is("at last", atTheLastMinute("s10099;").source(0, 4), 99);
    }

    private static void daily() {
        DUE.sentence("DAILY a STEADY's, if t modulo 10 is its FIGURE, else 0.");
        DUE.are("figure 0", gives("s20099;", 12), 99, 0, 0, 0, 0, 0, 0, 0, 0, 0, 99, 0);
        DUE.are("figure 9", gives("s20999;", 21), 0, 0, 0, 0, 0, 0, 0, 0, 0, 99, 0, 0, 0, 0, 0, 0, 0, 0, 0, 99, 0);
        SmellInTheHouse x = atTheLastMinute("s20999;s20099;");
        DUE.is("figure 9 at last", x.source(0, 4), 99);
        DUE.is("figure 0 at last", x.source(1, 4), 0);
        x.fill(0, 0);
        // 99, 9 out; 90 and 99, 18 out.
        DUE.are("both, what comes then", new long[] {x.behind(0, 1), x.behind(0, 2)}, 90, 171);
    }

    private static void winded() {
        DUE.sentence("WINDED a STEADY's, if WIND is its FIGURE modulo 4, else 0.");
        int[] windOf = {0, 1, 2, 3, 0, 1, 2, 3, 0, 1};
        for (int figure = 0; figure <= 9; figure++) {
            SmellInTheHouse x = Due.house("s30" + figure + "99;");
            for (int wind = 0; wind <= 3; wind++) {
                x.set(0, wind);
                DUE.is("figure " + figure + ", wind " + wind, x.source(0, 4), wind == windOf[figure] ? 99 : 0);
            }
        }
    }

    private static void dying() {
        DUE.sentence("DYING a STEADY's times its AGE by (FIGURE and 1), cut;");
        DUE.are("thirds of 99", gives("s40299;", 7), 0, 33, 66, 99, 66, 33, 0);
        DUE.are("thirds of 2", gives("s4022;", 7), 0, 0, 1, 2, 1, 0, 0);
        DUE.are("thirds of 1", gives("s4021;", 7), 0, 0, 0, 1, 0, 0, 0);
        DUE.are("thirds of 100 less 2", gives("s40298;", 7), 0, 32, 65, 98, 65, 32, 0);
        DUE.are("of 0", gives("s4020;", 7), 0, 0, 0, 0, 0, 0, 0);
    }

    private static void ages() {
        DUE.sentence("AGE is t, till t is FIGURE plus 1; then it is so much less as t is more than that, 0 at least.");
        DUE.are("figure 0", gives("s40099;", 5), 0, 99, 0, 0, 0);
        DUE.are("figure 1", gives("s4012;", 6), 0, 1, 2, 1, 0, 0);
        DUE.are("figure 9", gives("s40910;", 23),
                0, 1, 2, 3, 4, 5, 6, 7, 8, 9, 10, 9, 8, 7, 6, 5, 4, 3, 2, 1, 0, 0, 0);
        SmellInTheHouse x = atTheLastMinute("s40099;s40999;");
        DUE.is("figure 0 at last", x.source(0, 4), 0);
        DUE.is("figure 9 at last", x.source(1, 4), 0);
        x.fill(0, 0);
        DUE.is("nothing is taken away", x.behind(0, 200), 0);
    }

    private static void carried() {
        DUE.sentence("CARRIED as a STEADY, but into the ROOM whose number is one greater"
                + " (gone round ROOMS there are then).");
        DUE.are("0", gives("s5000;", 2), 0, 0);
        DUE.are("99", gives("s50999;", 2), 99, 99);
        SmellInTheHouse x = Due.house("o00;o10;s50010;s51007;");
        DUE.is("from the first of 2", x.source(0, 5), 1);
        DUE.is("from the last of 2", x.source(1, 5), 0);
        DUE.are("what comes", Due.behind(x, 1), 7, 10);
        Due.tell(x, "n5;o20;o30;o40;s53003;s54002;");
        DUE.is("from the second of 5", x.source(1, 5), 2);
        DUE.is("from the last but one of 5", x.source(2, 5), 4);
        DUE.is("from the last of 5", x.source(3, 5), 0);
        DUE.is("its room is what it was", x.source(3, 1), 4);
        DUE.are("what comes in 5", Due.behind(x, 1), 2, 10, 7, 0, 3);
    }

    private static void hidden() {
        DUE.sentence("HIDDEN half of a CARRIED's, up (into the ROOM as a CARRIED).");
        int[] strong = {0, 1, 2, 3, 98, 99};
        int[] half = {0, 1, 1, 2, 49, 50};
        for (int i = 0; i < strong.length; i++) {
            DUE.is("of " + strong[i], gives("s600" + strong[i] + ";", 1)[0], half[i]);
        }
        SmellInTheHouse x = Due.house("o00;o10;s60010;s61007;");
        DUE.is("from the first of 2", x.source(0, 5), 1);
        DUE.is("from the last of 2", x.source(1, 5), 0);
        DUE.are("what comes", Due.behind(x, 1), 4, 5);
        Due.tell(x, "n5;s64002;");
        DUE.is("from the second of 5", x.source(1, 5), 2);
        DUE.is("from the last of 5", x.source(2, 5), 0);
    }

    private static void thought() {
        DUE.sentence("THOUGHT 0.");
        DUE.are("a thought", gives("s70099;", 12), 0, 0, 0, 0, 0, 0, 0, 0, 0, 0, 0, 0);
        SmellInTheHouse x = Due.house("o10;s71099;");
        DUE.is("into its own room", x.source(0, 5), 1);
        DUE.is("none comes", x.behind(1, 9), 0);
    }

    private static void givenAtMost() {
        DUE.sentence("A MINUTE goes by: all SOURCES GIVE into their ROOMS (9999 at most each).");
        SmellInTheHouse x = Due.house("o00;o10;f014;s10098;s1001;s11099;");
        x.fill(0, 9899);
        DUE.are("9998", Due.behind(x, 1), 5999, 3999 + 99);
        x.fill(0, 9900);
        DUE.are("9999", Due.behind(x, 1), 6000, 3999 + 99);
        x.fill(0, 9901);
        DUE.are("10000 and no more than 9999", Due.behind(x, 1), 6000, 3999 + 99);
        x.fill(0, 9999);
        DUE.are("of 10098 4039 would go", Due.behind(x, 1), 6000, 3999 + 99);
        x = Due.house("o00;o10;" + "s10099;".repeat(5));
        DUE.are("all five", Due.behind(x, 1), 495, 0);
        DUE.are("all five, behind 20", Due.behind(x, 20), 9900, 0);
        DUE.are("all five, behind 21", Due.behind(x, 21), 9999, 0);
    }

    private static void atOnce() {
        DUE.sentence("Then from all ROOMS at once:");
        SmellInTheHouse x = Due.house("n3;o00;o10;o20;f014;f124;f204;");
        x.fill(0, 100);
        DUE.are("what came from 0 goes not on", Due.behind(x, 1), 60, 40, 0);
        x.fill(0, 0);
        x.fill(2, 100);
        DUE.are("what came from 2 goes not on", Due.behind(x, 1), 40, 0, 60);
        x.fill(0, 10);
        x.fill(1, 20);
        DUE.are("all", Due.behind(x, 1), 46, 16, 68);
        x = Due.house("n3;o00;o10;o20;f014;s10050;");
        DUE.are("what is given goes on", Due.behind(x, 1), 30, 20, 0);
    }

    private static void flowsAreCut() {
        DUE.sentence("of what it has then (H) FLOW times H by 10, cut, goes to each other ROOM by numbers,"
                + " if the DOOR is open,");
        flow(1, 9, 0);
        flow(1, 10, 1);
        flow(1, 19, 1);
        flow(1, 20, 2);
        flow(4, 2, 0);
        flow(4, 3, 1);
        flow(4, 4, 1);
        flow(4, 5, 2);
        flow(0, 9999, 0);
        flow(4, 9999, 3999);
        SmellInTheHouse x = Due.house("o00;o10;f014;f104;");
        x.fill(0, 100);
        x.fill(1, 10);
        DUE.are("open", Due.behind(x, 1), 64, 46);
        x.door(1, 0, true);
        DUE.are("shut", Due.behind(x, 1), 100, 10);
        x.door(0, 1, false);
        DUE.are("open again", Due.behind(x, 1), 64, 46);
    }

    private static void flow(int tenths, int strength, int goes) {
        SmellInTheHouse x = Due.house("o00;o10;f01" + tenths + ";");
        x.fill(0, strength);
        DUE.are(tenths + " tenths of " + strength, Due.behind(x, 1), strength - goes, goes);
    }

    private static void flowsByNumbers() {
        DUE.sentence("goes to each other ROOM by numbers");
        SmellInTheHouse x = Due.house("n5;o00;o10;o20;o30;o40;f404;f414;f424;f434;");
        x.fill(4, 100);
        DUE.are("from 4", Due.behind(x, 1), 40, 40, 20, 0, 0);
        x.door(0, 4, true);
        DUE.are("from 4, not to 0", Due.behind(x, 1), 0, 40, 40, 20, 0);
        x = Due.house("n5;o00;o10;o20;o30;o40;f014;f024;f034;f044;");
        x.fill(0, 100);
        DUE.are("from 0", Due.behind(x, 1), 0, 40, 40, 20, 0);
        x = Due.house("n5;o00;o10;o20;o30;o40;f204;f214;f234;f244;");
        x.fill(2, 99);
        DUE.are("from 2", Due.behind(x, 1), 39, 39, 0, 21, 0);
    }

    private static void outsAreCut() {
        DUE.sentence("then OUT times H by 10, cut, out of the house:");
        out(1, 9, 0);
        out(1, 10, 1);
        out(1, 19, 1);
        out(9, 1, 0);
        out(9, 2, 1);
        out(9, 9999, 8999);
        out(0, 9999, 0);
        SmellInTheHouse x = Due.house("o05;o10;f014;");
        x.fill(0, 100);
        DUE.are("of H, not of what is left", Due.behind(x, 1), 10, 40);
        x.door(0, 1, true);
        DUE.are("behind a shut door too", Due.behind(x, 1), 50, 0);
    }

    private static void out(int tenths, int strength, int goes) {
        SmellInTheHouse x = Due.house("o1" + tenths + ";");
        x.fill(1, strength);
        DUE.are(tenths + " tenths of " + strength, Due.behind(x, 1), 0, strength - goes);
        DUE.is("together", Due.behind(x, 1)[1] + goes, strength);
    }

    private static void noMoreThanIsLeft() {
        DUE.sentence("each no more than is left.");
        SmellInTheHouse x = Due.house("n4;o09;o10;o20;o30;f014;f024;");
        x.fill(0, 100);
        DUE.are("out of 20", Due.behind(x, 1), 0, 40, 40, 0);
        Due.tell(x, "o02;");
        DUE.are("out of 20, all", Due.behind(x, 1), 0, 40, 40, 0);
        Due.tell(x, "o01;");
        DUE.are("out of 20, half of it", Due.behind(x, 1), 10, 40, 40, 0);
        Due.tell(x, "o09;f034;");
        DUE.are("flow ahead of out", Due.behind(x, 1), 0, 40, 40, 20);
        Due.tell(x, "o00;f032;");
        DUE.are("just what is left", Due.behind(x, 1), 0, 40, 40, 20);
        Due.tell(x, "f031;");
        DUE.are("less than is left", Due.behind(x, 1), 10, 40, 40, 10);
    }

    private static void comesAtMost() {
        DUE.sentence("What comes is more (9999 at most).");
        SmellInTheHouse x = Due.house("n3;o00;o10;o20;f104;f204;");
        x.fill(1, 9999);
        x.fill(0, 5999);
        DUE.are("9998", Due.behind(x, 1), 9998, 6000, 0);
        x.fill(0, 6000);
        DUE.are("9999", Due.behind(x, 1), 9999, 6000, 0);
        x.fill(0, 6001);
        DUE.are("10000 and no more than 9999", Due.behind(x, 1), 9999, 6000, 0);
        x.fill(0, 9999);
        x.fill(2, 9999);
        DUE.are("from all", Due.behind(x, 1), 9999, 6000, 6000);
        Due.tell(x, "o09;");
        DUE.are("what went ahead of what came", Due.behind(x, 1), 1000 + 3999 + 3999, 6000, 6000);
    }

    private static void minuteIsOneMore() {
        DUE.sentence("MINUTE is one more.");
        SmellInTheHouse x = Due.house("o00;s20199;");
        DUE.is("1", x.go(1), 1);
        DUE.is("nothing in minute 0", x.room(0, 0), 0);
        DUE.is("2", x.go(1), 2);
        DUE.is("given in minute 1", x.room(0, 0), 99);
        DUE.is("11", x.go(9), 11);
        DUE.is("not yet", x.room(0, 0), 99);
        DUE.is("12", x.go(1), 12);
        DUE.is("given in minute 11", x.room(0, 0), 198);
        DUE.is("10 minutes in mind", x.behind(0, 10), 297);
        DUE.is("9 minutes in mind", x.behind(0, 9), 198);
    }
}
