/** Each sentence of "In mind, from now" ahead of the rounds, at its edges; mice and seeds too. */
public final class MindEdgesTest {
    private static final Due DUE = new Due("MindEdgesTest");

    public static void main(String[] args) {
        inMind();
        behind();
        strongest();
        pullsByKind();
        pullsThoughItBe0();
        pullsOfSeveral();
        whens();
        calls();
        stills();
        stillInAllRooms();
        shares();
        sharesBelow0();
        tapes();
        bestTapes();
        bestDoorsLeast();
        bestDoorsNone();
        bestDoorNames();
        miceTillMost();
        miceTillNone();
        seeds();
        draws();
        DUE.end();
    }

    /** In room 0 there is as much as minutes have gone by. */
    private static SmellInTheHouse oneMoreEachMinute() {
        return Due.house("o00;o10;s1001;");
    }

    private static void inMind() {
        DUE.sentence("==== II. In mind, from now:");
        SmellInTheHouse x = Due.house("n3;o00;f014;s10050;s41099;e4110;x12;");
        x.fill(2, 5);
        x.row(0);
        x.row(1);
        long[] answers = {x.behind(0, 200), x.strongest(200, 0), x.strongest(200, 1), x.when(2, 9999), x.call(),
            x.still(), x.share(0, 1, 200), x.tape(0, 1, 200), x.bestTape(1, 200), x.bestDoor(1, 200), x.says(0),
            x.alone(0, 0), x.apart(0), x.bestRound(0, 3, 0), x.odds(0, 0, 1, 0), x.any(0, 1, 0), x.likely(0, 1),
            x.mouse(1, 0), x.seeds(50, 9)};
        DUE.is("none is refused", answers.length, 19);
        DUE.are("strengths stay", Due.strengths(x), 0, 0, 5);
        DUE.is("the minute stays", x.count(3), 0);
        DUE.is("no door is shut", x.count(7), 1);
        DUE.is("untired", x.nose(0, 3), 0);
        DUE.is("nobody has said so", x.sniff(0, 2), 0);
        DUE.is("the wind stays", x.set(0, 0), 0);
        DUE.is("the row stays", x.count(6), 2);
        DUE.is("a minute goes by as ever", x.go(1), 1);
        DUE.are("and all give", Due.strengths(x), 30, 20, 5);
        x.go(1);
        // 80: 32 go to 1; 119: 11 go out.
        DUE.are("also the second", Due.strengths(x), 48, 140, 5);
        DUE.is("now is another now", x.behind(2, 0) + x.behind(0, 0), 53);
    }

    private static void behind() {
        DUE.sentence("BEHIND n MINUTES (0 .. 200): STRENGTH of a ROOM;");
        SmellInTheHouse x = oneMoreEachMinute();
        DUE.is("-1", x.behind(0, -1), -4);
        DUE.is("0", x.behind(0, 0), 0);
        DUE.is("1", x.behind(0, 1), 1);
        DUE.is("199", x.behind(0, 199), 199);
        DUE.is("200", x.behind(0, 200), 200);
        DUE.is("201", x.behind(0, 201), -6);
        DUE.is("200 in the other", x.behind(1, 200), 0);
        x.go(99);
        DUE.is("0 later", x.behind(0, 0), 99);
        DUE.is("200 later", x.behind(0, 200), 299);
    }

    private static void strongest() {
        DUE.sentence("the STRONGEST ROOM, of several the least;");
        SmellInTheHouse x = Due.house("n5;");
        DUE.is("of five the least", x.strongest(0, 0), 0);
        x.fill(4, 7);
        DUE.is("the last", x.strongest(0, 0), 4);
        x.fill(2, 7);
        x.fill(3, 7);
        DUE.is("of three the least", x.strongest(0, 0), 2);
        x.fill(3, 8);
        DUE.is("1 more", x.strongest(0, 0), 3);
        x.fill(0, 8);
        DUE.is("of two the least", x.strongest(0, 0), 0);
        x.fill(1, 9999);
        DUE.is("the most", x.strongest(0, 0), 1);
        x = Due.house("o00;o10;s11001;");
        x.fill(0, 199);
        DUE.is("behind 198", x.strongest(198, 0), 0);
        DUE.is("behind 199, both alike", x.strongest(199, 0), 0);
        DUE.is("behind 200", x.strongest(200, 0), 1);
        DUE.is("behind 201", x.strongest(201, 0), -6);
        DUE.is("behind -1", x.strongest(-1, 0), -4);
    }

    private static void pullsByKind() {
        DUE.sentence("PULLS: the STRONGEST of those ROOMS into which no SOURCE of KIND 1 .. 6 gives");
        for (int kind = 0; kind <= 7; kind++) {
            SmellInTheHouse x = Due.house("n3;s" + kind + "0099;");
            x.fill(0, 30);
            x.fill(1, 20);
            x.fill(2, 10);
            boolean gives = kind >= 1 && kind <= 6;
            DUE.is("kind " + kind, x.strongest(0, 1), gives && kind <= 4 ? 1 : 0);
            x.fill(1, 40);
            DUE.is("kind " + kind + ", more in 1", x.strongest(0, 1), kind == 5 || kind == 6 ? 0 : 1);
        }
        SmellInTheHouse x = Due.house("n3;s52010;");
        x.fill(0, 30);
        x.fill(2, 10);
        DUE.is("carried round into 0", x.strongest(0, 1), 2);
        Due.tell(x, "n4;");
        DUE.is("carried into 3, there are four", x.strongest(0, 1), 0);
    }

    private static void pullsThoughItBe0() {
        DUE.sentence("(by KIND and ROOM, though it be 0 then)");
        String[] sources = {"s1000;", "s20999;", "s30199;", "s40099;", "s5100;", "s6100;"};
        for (String source : sources) {
            SmellInTheHouse x = Due.house(source);
            x.fill(0, 30);
            x.fill(1, 1);
            DUE.is(source + " gives", x.source(0, 4), 0);
            DUE.is(source + " into", x.source(0, 5), 0);
            DUE.is("pulls with " + source, x.strongest(0, 1), 1);
        }
    }

    private static void pullsOfSeveral() {
        DUE.sentence("of several the least (-9 there is none, or it has 0).");
        SmellInTheHouse x = Due.house("n5;");
        DUE.is("all have 0", x.strongest(0, 1), -9);
        DUE.is("all have 0 behind 200", x.strongest(200, 1), -9);
        x.fill(4, 1);
        DUE.is("one has 1", x.strongest(0, 1), 4);
        x.fill(3, 1);
        DUE.is("of two the least", x.strongest(0, 1), 3);
        Due.tell(x, "s1300;");
        DUE.is("not that one", x.strongest(0, 1), 4);
        Due.tell(x, "s1400;");
        DUE.is("those left have 0", x.strongest(0, 1), -9);
        x.fill(0, 9);
        x.fill(1, 9);
        x.fill(2, 9);
        Due.tell(x, "s1000;s1100;s1200;");
        DUE.is("there is none", x.strongest(0, 1), -9);
        DUE.is("the strongest all the same", x.strongest(0, 0), 0);
        x = Due.house("o09;o10;s11050;");
        x.fill(0, 20);
        DUE.is("behind 1: 2", x.strongest(1, 1), 0);
        DUE.is("behind 2: 1", x.strongest(2, 1), 0);
        DUE.is("behind -1", x.strongest(-1, 1), -4);
        DUE.is("behind 200", x.strongest(200, 1), 0);
        DUE.is("behind 201", x.strongest(201, 1), -6);
    }

    private static void whens() {
        DUE.sentence("WHEN: the least n (0 .. 200) behind which a ROOM has as much as told or more; -9.");
        SmellInTheHouse x = oneMoreEachMinute();
        DUE.is("0", x.when(0, 0), 0);
        DUE.is("1", x.when(0, 1), 1);
        DUE.is("199", x.when(0, 199), 199);
        DUE.is("200", x.when(0, 200), 200);
        DUE.is("201", x.when(0, 201), -9);
        DUE.is("9999", x.when(0, 9999), -9);
        DUE.is("0 in the other", x.when(1, 0), 0);
        DUE.is("1 in the other", x.when(1, 1), -9);
        x.fill(0, 9999);
        DUE.is("9999 now", x.when(0, 9999), 0);
        x.fill(0, 9800);
        DUE.is("9999 behind 199", x.when(0, 9999), 199);
        x = Due.house("s20399;");
        x.fill(0, 50);
        DUE.is("now, later less and more again", x.when(0, 50), 0);
        // 50, 45, 41, 37; 136 of which 13 go out: 123.
        DUE.is("what there is for some minutes", x.when(0, 51), 4);
        DUE.is("the most of the first day", x.when(0, 123), 4);
        DUE.is("never within the most", x.when(0, 9998), -9);
    }

    private static void calls() {
        DUE.sentence("CALL: the least n (0 .. 200) behind which some ROOM has DANGER or more; -9.");
        SmellInTheHouse x = oneMoreEachMinute();
        x.set(1, 199);
        DUE.is("199", x.call(), 199);
        x.set(1, 200);
        DUE.is("200", x.call(), 200);
        x.set(1, 201);
        DUE.is("201", x.call(), -9);
        x.set(1, 1);
        DUE.is("1", x.call(), 1);
        x.go(1);
        DUE.is("1 now", x.call(), 0);
        x.set(1, 999);
        DUE.is("999", x.call(), -9);
        x.fill(0, 999);
        DUE.is("999 now", x.call(), 0);
        x = Due.house("n5;");
        for (int room = 0; room < 5; room++) {
            x.fill(room, 199);
            DUE.is("less in " + room, x.call(), -9);
            x.fill(room, 200);
            DUE.is("as much in " + room, x.call(), 0);
            x.fill(room, 9999);
            DUE.is("more in " + room, x.call(), 0);
            x.fill(room, 0);
        }
        x = Due.house("o09;s20499;");
        x.set(1, 10);
        DUE.is("for one minute", x.call(), 5);
        x.set(1, 11);
        DUE.is("99 of which 89 go out", x.call(), -9);
    }

    private static void stills() {
        DUE.sentence("STILL: the least n (0 .. 199) so that a MINUTE behind n changes no STRENGTH"
                + " (all alike behind n and behind n and 1); -9.");
        SmellInTheHouse x = Due.house("o00;s10050;");
        x.fill(0, 9999);
        DUE.is("now", x.still(), 0);
        x.fill(0, 9998);
        DUE.is("behind 1", x.still(), 1);
        x.fill(0, 9949);
        DUE.is("behind 1, just", x.still(), 1);
        x.fill(0, 9948);
        DUE.is("behind 2", x.still(), 2);
        x.fill(0, 99);
        DUE.is("behind 198", x.still(), 198);
        x.fill(0, 98);
        DUE.is("behind 199", x.still(), 199);
        x.fill(0, 49);
        DUE.is("behind 199, just", x.still(), 199);
        x.fill(0, 48);
        DUE.is("behind 200", x.still(), -9);
        x.fill(0, 0);
        DUE.is("behind 200, just", x.still(), -9);
        x = Due.house("o00;s20501;");
        DUE.is("for some minutes", x.still(), 0);
        x.go(5);
        DUE.is("not in this one", x.still(), 1);
    }

    private static void stillInAllRooms() {
        DUE.sentence("changes no STRENGTH");
        for (int room = 0; room < 5; room++) {
            SmellInTheHouse x = Due.house("n5;");
            x.fill(room, 11);
            DUE.is("11 in " + room + " becomes 10 and 9", x.still(), 2);
        }
        SmellInTheHouse x = Due.house("o00;o10;f011;");
        x.fill(0, 10);
        DUE.is("all together alike, not each", x.still(), 1);
        x = Due.house("o00;o10;f014;f104;");
        x.fill(0, 50);
        x.fill(1, 50);
        DUE.is("as much goes as comes", x.still(), 0);
    }

    private static void shares() {
        DUE.sentence("SHARE of a SOURCE: BEHIND n MINUTES how much less a ROOM would have without it");
        SmellInTheHouse x = Due.house("o00;o10;s1001;s1003;s5012;s0099;s7099;");
        DUE.is("behind 0", x.share(1, 0, 0), 0);
        DUE.is("behind 1", x.share(1, 0, 1), 3);
        DUE.is("behind 200", x.share(1, 0, 200), 600);
        DUE.is("of the first behind 200", x.share(0, 0, 200), 200);
        DUE.is("of the carried one", x.share(2, 1, 200), 400);
        DUE.is("of the carried one, not where it is", x.share(2, 0, 200), 0);
        DUE.is("of a smell", x.share(3, 0, 200), 0);
        DUE.is("of a thought", x.share(4, 0, 200), 0);
        DUE.is("behind -1", x.share(1, 0, -1), 1000000004);
        DUE.is("behind 201", x.share(1, 0, 201), 1000000006);
        x.fill(0, 9999);
        DUE.is("there is no more than 9999", x.share(1, 0, 1), 0);
        x.fill(0, 9997);
        DUE.is("1 of 3", x.share(1, 0, 1), 1);
        DUE.is("of 1, with the 3", x.share(0, 0, 1), 0);
        DUE.is("all are there still", x.behind(1, 1), 2);
    }

    private static void sharesBelow0() {
        DUE.sentence("(may be below 0).");
        SmellInTheHouse x = Due.house("n3;o00;o10;o20;f014;f024;s1001;");
        x.fill(0, 4);
        // With it 5: 2 and 2 go, 1 stays; without 4: 1 and 1 go, 2 stay.
        DUE.is("where it gives", x.share(0, 0, 1), -1);
        DUE.is("where it goes", x.share(0, 1, 1), 1);
        SmellInTheHouse y = Due.house("o09;f014;s1001;");
        y.fill(0, 9);
        // With it 10: 4 go, 6 out; without 9: 3 go, 6 out.
        DUE.is("none", y.share(0, 0, 1), 0);
        DUE.is("above 0", y.share(0, 1, 1), 1);
    }

    private static void tapes() {
        DUE.sentence("TAPE: BEHIND n MINUTES STRENGTH of a ROOM, if nothing were given into a told ROOM from now on;");
        SmellInTheHouse x = Due.house("n3;o00;o10;o20;f124;s10010;s51001;s62004;");
        x.fill(0, 7);
        DUE.is("behind 0", x.tape(0, 0, 0), 7);
        DUE.is("behind 1", x.tape(0, 0, 1), 7);
        DUE.is("behind 200", x.tape(0, 0, 200), 7);
        DUE.is("behind -1", x.tape(0, 0, -1), -4);
        DUE.is("behind 201", x.tape(0, 0, 201), -6);
        DUE.is("untaped", x.behind(0, 200), 7 + 200 * 12);
        DUE.is("another taped", x.tape(1, 0, 200), 7 + 200 * 12);
        DUE.is("the last taped", x.tape(2, 0, 200), 7 + 200 * 12);
        DUE.is("carried into it", x.tape(2, 2, 200), 0);
        DUE.is("carried from another taped one", x.tape(1, 2, 200), 200);
        x.fill(1, 100);
        DUE.is("what flows in is not given", x.tape(2, 2, 1), 40);
        DUE.is("what was there flows on", x.tape(1, 2, 1), 41);
        DUE.is("from now on, in mind", x.behind(0, 1), 19);
    }

    private static void bestTapes() {
        DUE.sentence("BEST TAPE: the ROOM that is to be told so that it is least, of several the least.");
        SmellInTheHouse x = Due.house("n5;");
        DUE.is("of five the least", x.bestTape(4, 200), 0);
        Due.tell(x, "o00;o10;o20;o30;o40;s14009;s13009;f344;");
        DUE.is("the last", x.bestTape(4, 1), 4);
        DUE.is("the last but one", x.bestTape(3, 1), 3);
        DUE.is("none helps: the least", x.bestTape(2, 1), 0);
        DUE.is("behind 0 all are alike", x.bestTape(4, 0), 0);
        DUE.is("behind -1", x.bestTape(4, -1), -4);
        // Of the 1800 that 3 gets some is there still.
        DUE.is("behind 200", x.bestTape(4, 200), 4);
        DUE.is("behind 201", x.bestTape(4, 201), -6);
        Due.tell(x, "s13005;s12009;f244;f340;f343;");
        // 9 of its own, 9 from the third with 4 tenths: 3; 14 from the fourth with 3 tenths: 4.
        DUE.is("of all untaped 16", x.behind(4, 1), 9 + 3 + 4);
        DUE.is("its own is the most", x.bestTape(4, 1), 4);
        x = Due.house("n3;o00;o10;o20;f104;f204;s11009;s12009;");
        DUE.is("of two the least", x.bestTape(0, 1), 1);
        x = Due.house("n3;o00;o10;o20;f104;f204;s11009;s12010;");
        DUE.is("the greater helps more", x.bestTape(0, 1), 2);
        x = Due.house("o00;o10;f104;s1003;s1109;");
        DUE.are("3 by either, 6 by none", new long[] {x.tape(0, 0, 1), x.tape(1, 0, 1), x.behind(0, 1)}, 3, 3, 6);
        DUE.is("of two the least, 0", x.bestTape(0, 1), 0);
        x = Due.house("n3;o00;o10;o20;f014;f024;s1001;");
        x.fill(0, 4);
        DUE.are("more by the first", new long[] {x.tape(0, 0, 1), x.tape(1, 0, 1), x.tape(2, 0, 1)}, 2, 1, 1);
        DUE.is("of those that do nothing the least", x.bestTape(0, 1), 1);
    }

    private static void bestDoorsLeast() {
        DUE.sentence("BEST DOOR: the open DOOR which, SHUT from now on, makes STRENGTH of a ROOM BEHIND n MINUTES least");
        SmellInTheHouse x = Due.house("n4;o00;o10;o20;o30;f104;f204;f304;");
        x.fill(1, 10);
        x.fill(2, 20);
        x.fill(3, 30);
        DUE.is("the one with most", x.bestDoor(0, 1), 3);
        DUE.is("behind 200", x.bestDoor(0, 200), 3);
        x.door(3, 0, true);
        DUE.is("of the open ones", x.bestDoor(0, 1), 2);
        x.door(2, 0, true);
        DUE.is("of the open one", x.bestDoor(0, 1), 1);
        x.door(3, 0, false);
        DUE.is("open again", x.bestDoor(0, 1), 3);
        DUE.is("it was shut in mind", x.count(7), 1);
        DUE.is("behind -1", x.bestDoor(0, -1), -4);
        DUE.is("behind 201", x.bestDoor(0, 201), -6);
        x = Due.house("n3;o00;o10;o20;f014;f124;s10050;");
        DUE.is("a door farther off, behind 1", x.bestDoor(2, 1), -9);
        DUE.is("behind 2: both hinder it whole", x.bestDoor(2, 2), 1);
        x.fill(1, 10);
        DUE.is("behind 2: what is there comes", x.bestDoor(2, 2), 12);
    }

    private static void bestDoorsNone() {
        DUE.sentence("least and less than now it would be: 10 times the lesser ROOM and the greater,"
                + " of several the least; -9.");
        SmellInTheHouse x = Due.house("n5;o00;o10;o20;o30;o40;f344;f244;f034;");
        DUE.is("all have nothing", x.bestDoor(4, 200), -9);
        x.fill(4, 50);
        DUE.is("as much as now it would be", x.bestDoor(4, 200), -9);
        x.fill(3, 2);
        DUE.is("what is too little to move", x.bestDoor(4, 1), -9);
        x.fill(3, 3);
        DUE.is("1 less", x.bestDoor(4, 1), 34);
        DUE.is("behind 0 none is less", x.bestDoor(4, 0), -9);
        x.fill(2, 3);
        DUE.is("of two the least", x.bestDoor(4, 1), 24);
        x.fill(3, 5);
        DUE.is("1 less than the other", x.bestDoor(4, 1), 34);
        DUE.is("more, not less", x.bestDoor(3, 1), -9);
        x.fill(0, 90);
        DUE.is("from 0", x.bestDoor(3, 1), 3);
        x = Due.house("f104;f014;");
        x.fill(1, 90);
        x.door(0, 1, true);
        DUE.is("no door is open", x.bestDoor(0, 1), -9);
        x.door(0, 1, false);
        DUE.is("the one door", x.bestDoor(0, 1), 1);
    }

    private static void bestDoorNames() {
        DUE.sentence("10 times the lesser ROOM and the greater");
        for (int from = 0; from < 5; from++) {
            for (int to = 0; to < 5; to++) {
                if (from != to) {
                    SmellInTheHouse x = Due.house("n5;f" + from + to + "4;");
                    x.fill(from, 100);
                    int due = from < to ? 10 * from + to : 10 * to + from;
                    DUE.is("from " + from + " to " + to, x.bestDoor(to, 1), due);
                    DUE.is("not to leave " + from, x.bestDoor(from, 1), -9);
                }
            }
        }
    }

    private static void miceTillMost() {
        DUE.sentence("MOUSE: for a DYING SOURCE: how many MINUTES from now till it GIVES most"
                + " (the first such MINUTE; 0 if it is past, or STRONG 0);");
        SmellInTheHouse x = Due.house("s40099;s40999;s4091;s4090;s4000;");
        DUE.is("figure 0", x.mouse(0, 0), 1);
        DUE.is("figure 9", x.mouse(1, 0), 10);
        DUE.is("figure 9 of 1", x.mouse(2, 0), 10);
        DUE.is("figure 9 of 0", x.mouse(3, 0), 0);
        DUE.is("figure 0 of 0", x.mouse(4, 0), 0);
        x.go(1);
        DUE.is("figure 0 now", x.mouse(0, 0), 0);
        DUE.is("figure 9 behind 9", x.mouse(1, 0), 9);
        x.go(8);
        DUE.is("figure 0, past", x.mouse(0, 0), 0);
        DUE.is("figure 9, the next", x.mouse(1, 0), 1);
        DUE.is("figure 9 of 0 still", x.mouse(3, 0), 0);
        x.go(1);
        DUE.is("figure 9 now", x.mouse(1, 0), 0);
        DUE.is("it gives most", x.source(1, 4), 99);
        x.go(1);
        DUE.is("figure 9, past", x.mouse(1, 0), 0);
        x.go(99);
        DUE.is("figure 9, long past", x.mouse(1, 0), 0);
    }

    private static void miceTillNone() {
        DUE.sentence("till it GIVES 0 (cut) for good (0 likewise).");
        SmellInTheHouse x = Due.house("s40099;s40999;s4091;s4095;s4090;");
        DUE.is("figure 0", x.mouse(0, 1), 2);
        DUE.is("figure 9", x.mouse(1, 1), 20);
        // 1 times 9 by 10 is 0; 5 times 2 by 10 is 1, 5 times 1 by 10 is 0.
        DUE.is("figure 9 of 1", x.mouse(2, 1), 11);
        DUE.is("figure 9 of 5", x.mouse(3, 1), 19);
        DUE.is("figure 9 of 0", x.mouse(4, 1), 0);
        DUE.is("it gives 0 now, not for good", x.source(1, 4), 0);
        x.go(2);
        DUE.is("figure 0 now", x.mouse(0, 1), 0);
        DUE.is("figure 9 behind 18", x.mouse(1, 1), 18);
        x.go(9);
        DUE.is("figure 9 of 1 now", x.mouse(2, 1), 0);
        x.go(7);
        DUE.is("figure 9 of 5, the next", x.mouse(3, 1), 1);
        DUE.is("it gives 1", x.source(3, 4), 1);
        x.go(1);
        DUE.is("figure 9, the next", x.mouse(1, 1), 1);
        DUE.is("it gives 9", x.source(1, 4), 9);
        DUE.is("figure 9 of 5 now", x.mouse(3, 1), 0);
        x.go(1);
        DUE.is("figure 9 now", x.mouse(1, 1), 0);
        x.go(1);
        DUE.is("figure 9, past", x.mouse(1, 1), 0);
    }

    private static void seeds() {
        DUE.sentence("SEEDS: n MINUTES (1 .. 50) with a seed z, in mind, WIND in each a DRAW below 4:"
                + " STRENGTH of all ROOMS together then.");
        SmellInTheHouse x = Due.house("n3;o00;o10;o20;s10001;s51002;f024;");
        x.fill(1, 5);
        DUE.is("0", x.seeds(0, 7), -4);
        DUE.is("1", x.seeds(1, 7), 5 + 3);
        DUE.is("50", x.seeds(50, 7), 5 + 150);
        DUE.is("51", x.seeds(51, 7), -6);
        DUE.is("-1", x.seeds(-1, 7), -4);
        DUE.is("in mind", x.count(4), 5);
        // Seed 0 becomes 12345, over 65536 that is 0.
        x = Due.house("o00;s30050;");
        DUE.is("a draw of 0, the wind is 0", x.seeds(1, 0), 50);
        x.set(0, 3);
        DUE.is("a draw of 0, the wind is 3", x.seeds(1, 0), 50);
        DUE.is("the wind is 3 still", x.set(0, 3), 3);
        x = Due.house("s20050;");
        x.go(1);
        DUE.is("minutes from now on", x.seeds(9, 0), x.behind(0, 9));
        DUE.is("the tenth of them", x.seeds(10, 0), x.behind(0, 10));
    }

    private static void draws() {
        DUE.sentence("DRAWS: z becomes z times 1103515245 plus 12345 (an int, wrapping);"
                + " a DRAW below n is (z without its sign's bit, over 65536, cut) modulo n.");
        // For each wind a source of its own, so that one minute tells its draw: 1, 2, 3 or 4.
        SmellInTheHouse x = Due.house("o00;o10;s3001;s3012;s3023;s3034;");
        int[] seeds = {0, 1, 2, 3, -1, -2, Integer.MAX_VALUE, Integer.MIN_VALUE, 65535, 65536, 12345, 1103515245,
            -12345, 1 << 30};
        int below = 0;
        for (int seed : seeds) {
            int sum = 0;
            long z = seed;
            for (int n = 1; n <= 12; n++) {
                z = z * 1103515245L + 12345L;
                long asInt = z & 0xffffffffL;
                below += asInt >= 0x80000000L ? 1 : 0;
                z = asInt >= 0x80000000L ? asInt - 0x100000000L : asInt;
                sum += (int) (asInt % 0x80000000L / 65536 % 4) + 1;
                DUE.is("seed " + seed + ", " + n, x.seeds(n, seed), sum);
            }
        }
        DUE.is("some are below 0", below > 20 ? 1 : 0, 1);
        // By hand: 1 becomes 1103527590, over 65536 that is 16838, modulo 4 that is 2.
        DUE.is("seed 1 by hand", x.seeds(1, 1), 3);
        // -1 becomes -1103502900; without the sign's bit 1043980748, over 65536 that is 15929, modulo 4 that is 1.
        DUE.is("seed -1 by hand", x.seeds(1, -1), 2);
    }
}
