/** Promises 8 to 11 and 14 to 22, 32 and 33: settings, doors, minutes that go by, in mind too. */
public final class MinutesTest {
    private static final Due DUE = new Due("MinutesTest");

    public static void main(String[] args) {
        settings();
        fills();
        doors();
        goes();
        goesNoFurther();
        airMoves();
        airIsCut();
        noMoreThanIsLeft();
        noMoreThanTheMost();
        givesGoIn();
        behind();
        strongest();
        pulls();
        whens();
        calls();
        stills();
        shares();
        sharesBelowNothing();
        tapes();
        bestDoors();
        bestDoorOfSeveral();
        mice();
        seeds();
        DUE.end();
    }

    private static void settings() {
        SmellInTheHouse x = new SmellInTheHouse();
        DUE.is("wind 3", x.set(0, 3), 0);
        DUE.is("wind 0", x.set(0, 0), 3);
        DUE.is("danger 999", x.set(1, 999), 200);
        DUE.is("danger 1", x.set(1, 1), 999);
        DUE.is("slip 50", x.set(2, 50), 10);
        DUE.is("slip 0", x.set(2, 0), 50);
        DUE.is("what 3", x.set(3, 0), -2);
        DUE.is("what -1", x.set(-1, -1), -2);
        DUE.is("wind -1", x.set(0, -1), -4);
        DUE.is("wind 4", x.set(0, 4), -6);
        DUE.is("danger 0", x.set(1, 0), -4);
        DUE.is("danger 1000", x.set(1, 1000), -6);
        DUE.is("slip -1", x.set(2, -1), -4);
        DUE.is("slip 51", x.set(2, 51), -6);
        DUE.is("nothing changed: wind", x.set(0, 0), 0);
        DUE.is("nothing changed: danger", x.set(1, 1), 1);
        DUE.is("nothing changed: slip", x.set(2, 0), 0);
        DUE.is("refusals -4", x.count(14), 3);
        DUE.is("refusals -6", x.count(16), 3);
    }

    private static void fills() {
        SmellInTheHouse x = new SmellInTheHouse();
        DUE.is("filled", x.fill(1, 9999), 0);
        DUE.is("filled anew", x.fill(1, 0), 9999);
        DUE.is("nobody", x.fill(2, -1), -1);
        DUE.is("nobody below", x.fill(-1, 0), -1);
        DUE.is("below", x.fill(1, -1), -4);
        DUE.is("above", x.fill(1, 10000), -6);
        DUE.is("strength then", x.room(1, 0), 0);
    }

    private static void doors() {
        SmellInTheHouse x = new SmellInTheHouse();
        DUE.is("open as it was", x.door(0, 1, false), 0);
        DUE.is("shut", x.door(1, 0, true), 1);
        DUE.is("shut as it was", x.door(0, 1, true), 0);
        DUE.is("it is shut", x.flow(0, 1, 1), 1);
        DUE.is("one shut door", x.count(7), 1);
        DUE.is("opened", x.door(0, 1, false), 1);
        DUE.is("none shut", x.count(7), 0);
        DUE.is("one twice", x.door(1, 1, true), -1);
        DUE.is("nobody", x.door(0, 2, true), -1);
        DUE.is("nobody first", x.door(2, 0, true), -1);
        DUE.is("nobody below", x.door(-1, 0, true), -1);
        DUE.is("none shut still", x.count(7), 0);
    }

    private static void goes() {
        SmellInTheHouse x = Due.house("s10010;");
        DUE.is("a minute", x.go(1), 1);
        DUE.is("99 minutes", x.go(99), 100);
        DUE.is("none", x.go(0), -4);
        DUE.is("less", x.go(-5), -4);
        DUE.is("100", x.go(100), -6);
        DUE.is("minute", x.count(3), 100);
    }

    private static void goesNoFurther() {
        SmellInTheHouse x = new SmellInTheHouse();
        for (int i = 0; i < 101; i++) {
            x.go(99);
        }
        DUE.is("all 9999", x.count(3), 9999);
        DUE.is("one more", x.go(1), -6);
        DUE.is("0 more", x.go(0), -4);
        DUE.is("minute", x.count(3), 9999);
        Due.tell(x, "s20950;s20015;");
        DUE.is("in mind it goes on", x.behind(0, 2), 54);
        DUE.is("the greatest n", x.go(Integer.MAX_VALUE), -6);
    }

    private static void airMoves() {
        SmellInTheHouse x = Due.house("n3;f012;f023;f101;o04;o10;o25;");
        x.fill(0, 100);
        x.fill(1, 50);
        // 0: 20 to 1, 30 to 2, 40 out, 10 stay; 1: 5 to 0.
        x.go(1);
        DUE.are("behind a minute", Due.strengths(x), 15, 65, 30);
        // 0: 3 to 1, 4 to 2, 6 out, 2 stay; 1: 6 to 0; 2: 15 out.
        x.go(1);
        DUE.are("behind two", Due.strengths(x), 8, 62, 19);
        x.door(0, 1, true);
        // 0: 2 to 2, 3 out, 3 stay; 2: 9 out.
        x.go(1);
        DUE.are("with a shut door", Due.strengths(x), 3, 62, 12);
    }

    private static void airIsCut() {
        SmellInTheHouse x = Due.house("f011;");
        x.fill(0, 9);
        x.go(1);
        DUE.are("less than a tenth part moves", Due.strengths(x), 9, 0);
        x.fill(0, 19);
        x.go(1);
        DUE.are("1 moves, 1 goes out", Due.strengths(x), 17, 1);
    }

    private static void noMoreThanIsLeft() {
        SmellInTheHouse x = Due.house("n5;f104;f124;f134;f144;o19;");
        x.fill(1, 100);
        x.go(1);
        DUE.are("by numbers, till none is left", Due.strengths(x), 40, 0, 40, 20, 0);
        x = Due.house("n3;f014;f024;o09;");
        x.fill(0, 100);
        x.go(1);
        DUE.are("out of what is left", Due.strengths(x), 0, 40, 40);
        x = Due.house("n3;f014;f024;o01;");
        x.fill(0, 100);
        x.go(1);
        DUE.are("some stays", Due.strengths(x), 10, 40, 40);
    }

    private static void noMoreThanTheMost() {
        SmellInTheHouse x = Due.house("o00;o10;f014;s10050;s10060;");
        x.fill(0, 9990);
        x.fill(1, 9000);
        // 0 has 9999 then, 3999 of it move.
        x.go(1);
        DUE.are("9999 at most", Due.strengths(x), 6000, 9999);
        x = Due.house("o00;o10;f104;");
        x.fill(0, 9000);
        x.fill(1, 9000);
        x.go(1);
        DUE.are("9999 at most in the first", Due.strengths(x), 9999, 5400);
    }

    private static void givesGoIn() {
        SmellInTheHouse x = Due.house("n3;o00;o10;o20;s10010;s51020;s62007;");
        x.go(1);
        DUE.are("into their rooms", Due.strengths(x), 14, 0, 20);
        x = Due.house("n3;o00;o10;o20;s20150;s40220;s30160;");
        x.go(1);
        DUE.are("minute 0", Due.strengths(x), 0, 0, 0);
        x.go(1);
        DUE.are("minute 1", Due.strengths(x), 56, 0, 0);
        x.set(0, 1);
        x.go(1);
        DUE.are("minute 2, with wind", Due.strengths(x), 129, 0, 0);
    }

    private static void behind() {
        SmellInTheHouse x = Due.house("f012;s10010;");
        x.fill(1, 40);
        DUE.is("behind none", x.behind(1, 0), 40);
        // 0: 10 given, 2 to 1, 1 out; 1: 4 out of 40.
        DUE.are("behind 1", Due.behind(x, 1), 7, 38);
        // 0: 17, 3 to 1, 1 out; 1: 3 out of 38.
        DUE.are("behind 2", Due.behind(x, 2), 13, 38);
        DUE.is("in mind alone", x.room(1, 0), 40);
        DUE.is("no minute goes by", x.count(3), 0);
        int far = x.behind(0, 200);
        DUE.is("nobody", x.behind(2, -1), -1);
        DUE.is("nobody below", x.behind(-1, 0), -1);
        DUE.is("below", x.behind(0, -1), -4);
        DUE.is("above", x.behind(0, 201), -6);
        x.go(99);
        x.go(99);
        x.go(2);
        DUE.is("as it comes", x.room(0, 0), far);
    }

    private static void strongest() {
        SmellInTheHouse x = Due.house("n3;o09;");
        DUE.is("all nothing", x.strongest(0, 0), 0);
        x.fill(1, 20);
        x.fill(2, 20);
        DUE.is("of two the least", x.strongest(0, 0), 1);
        x.fill(0, 30);
        DUE.is("now", x.strongest(0, 0), 0);
        DUE.is("behind a minute", x.strongest(1, 0), 1);
        DUE.is("200", x.strongest(200, 0), 1);
        DUE.is("what", x.strongest(-1, 2), -2);
        DUE.is("what below", x.strongest(0, -1), -2);
        DUE.is("below", x.strongest(-1, 0), -4);
        DUE.is("above", x.strongest(201, 1), -6);
    }

    private static void pulls() {
        SmellInTheHouse x = Due.house("n3;s10000;");
        x.fill(0, 50);
        DUE.is("the others have none", x.strongest(0, 1), -9);
        x.fill(2, 1);
        DUE.is("one has 1", x.strongest(0, 1), 2);
        x.fill(1, 7);
        x.fill(2, 7);
        DUE.is("of two the least", x.strongest(0, 1), 1);
        x.fill(2, 8);
        DUE.is("the strongest", x.strongest(0, 1), 2);
        Due.tell(x, "s51009;");
        DUE.is("carried into it", x.strongest(0, 1), 1);
        Due.tell(x, "s00999;s71099;");
        DUE.is("smell and thought are none", x.strongest(0, 1), 1);
        Due.tell(x, "s2190;");
        DUE.is("in all is given", x.strongest(0, 1), -9);
        x = Due.house("n3;s61009;");
        x.fill(1, 7);
        DUE.is("hidden goes into the next", x.strongest(0, 1), 1);
        x.fill(2, 70);
        DUE.is("not from there", x.strongest(0, 1), 1);
        for (int kind = 0; kind <= 7; kind++) {
            x = Due.house("s" + kind + "00" + "9;");
            x.fill(0, 9);
            x.fill(1, 8);
            int due = kind == 0 || kind == 7 ? 0 : kind < 5 ? 1 : 0;
            DUE.is("pulls with kind " + kind, x.strongest(0, 1), due);
        }
    }

    private static void whens() {
        SmellInTheHouse x = Due.house("o00;s10010;");
        DUE.is("nothing", x.when(0, 0), 0);
        DUE.is("one", x.when(0, 1), 1);
        DUE.is("ten", x.when(0, 10), 1);
        DUE.is("eleven", x.when(0, 11), 2);
        DUE.is("2000", x.when(0, 2000), 200);
        DUE.is("2001", x.when(0, 2001), -9);
        DUE.is("9999", x.when(0, 9999), -9);
        x.fill(0, 9999);
        DUE.is("now", x.when(0, 9999), 0);
        DUE.is("nobody", x.when(2, -1), -1);
        DUE.is("below", x.when(0, -1), -4);
        DUE.is("above", x.when(0, 10000), -6);
    }

    private static void calls() {
        SmellInTheHouse x = Due.house("o10;s11001;");
        DUE.is("behind 200", x.call(), 200);
        x.set(1, 201);
        DUE.is("never", x.call(), -9);
        x.set(1, 5);
        DUE.is("behind 5", x.call(), 5);
        x.fill(0, 5);
        DUE.is("now", x.call(), 0);
    }

    private static void stills() {
        SmellInTheHouse x = new SmellInTheHouse();
        DUE.is("nothing", x.still(), 0);
        x.fill(1, 12);
        // 12, 11, 10, 9, 9.
        DUE.is("till less than 10", x.still(), 3);
        x = Due.house("o00;s1001;");
        DUE.is("never", x.still(), -9);
        x = Due.house("o00;s20001;");
        DUE.is("behind the first", x.still(), 1);
        x = Due.house("o00;s10050;");
        x.fill(0, 49);
        DUE.is("9999: behind 199", x.still(), 199);
        x.fill(0, 48);
        DUE.is("9999: behind 200", x.still(), -9);
    }

    private static void shares() {
        SmellInTheHouse x = Due.house("o00;o10;f011;s10010;s11003;");
        DUE.is("now", x.share(0, 0, 0), 0);
        DUE.is("behind 1", x.share(0, 0, 1), 9);
        DUE.is("in the other", x.share(0, 1, 1), 1);
        DUE.is("of the other", x.share(1, 1, 2), 6);
        DUE.is("of the other, not there", x.share(1, 0, 2), 0);
        DUE.is("nobody", x.share(2, 0, 0), 1000000001);
        DUE.is("nobody below", x.share(-1, 0, 0), 1000000001);
        DUE.is("no room", x.share(0, 2, -1), 1000000001);
        DUE.is("below", x.share(0, 0, -1), 1000000004);
        DUE.is("above", x.share(0, 0, 201), 1000000006);
        DUE.is("refusals -1", x.count(11), 3);
        DUE.is("refusals -4", x.count(14), 1);
        DUE.is("refusals -6", x.count(16), 1);
    }

    /** What is given now can push what is left below a tenth's step, so that less stays. */
    private static void sharesBelowNothing() {
        SmellInTheHouse x = Due.house("o09;s1001;");
        x.fill(0, 9);
        // With: 10, 9 out: 1; without: 9, 8 out: 1. Behind 2: 2, 1 out: 1; 1, 0 out: 1.
        DUE.is("none", x.share(0, 0, 1), 0);
        x = Due.house("f014;f104;o09;o19;s1001;");
        x.fill(0, 4);
        // With: 5, 2 to 1, 3 out of 3: 0 stay. Without: 4, 1 to 1, 3 out: 0 stay.
        DUE.is("in the other", x.share(0, 1, 1), 1);
        x = Due.house("o05;s1001;");
        x.fill(0, 1);
        // With: 2, 1 out: 1. Without: 1, 0 out: 1.
        DUE.is("gone out", x.share(0, 0, 1), 0);
        x = Due.house("n3;o00;o10;o20;f014;f024;s1001;");
        x.fill(0, 4);
        // With: 5: 2 and 2 move, 1 stays. Without: 4: 1 and 1 move, 2 stay.
        DUE.is("below nothing", x.share(0, 0, 1), -1);
    }

    private static void tapes() {
        SmellInTheHouse x = Due.house("n3;o00;o10;o20;f104;s10010;s50020;s11007;");
        DUE.is("untaped", x.behind(1, 1), 17);
        DUE.is("taped where it is carried into", x.tape(1, 1, 1), 0);
        DUE.is("taped where it comes from", x.tape(0, 1, 1), 17);
        DUE.is("room 0", x.behind(0, 1), 20);
        DUE.is("itself", x.tape(0, 0, 1), 10);
        DUE.is("the other", x.tape(1, 0, 1), 10);
        DUE.is("the last", x.tape(2, 0, 1), 20);
        DUE.is("of two the least", x.bestTape(0, 1), 0);
        DUE.is("best for 1", x.bestTape(1, 1), 1);
        DUE.is("all alike", x.bestTape(2, 9), 0);
        DUE.is("now", x.bestTape(1, 0), 0);
        x.fill(1, 100);
        DUE.is("what is there flows on", x.tape(1, 0, 1), 50);
        SmellInTheHouse y = Due.house("n3;o00;o10;o20;f104;f204;s11050;s12020;");
        DUE.is("28 untaped, 8, 20", y.bestTape(0, 1), 1);
        DUE.is("taped where less comes from", y.tape(2, 0, 1), 20);
        DUE.is("no taped", x.tape(3, 0, 0), -1);
        DUE.is("no taped below", x.tape(-1, 0, 0), -1);
        DUE.is("no room", x.tape(0, 3, -1), -1);
        DUE.is("below", x.tape(0, 0, -1), -4);
        DUE.is("above", x.tape(0, 0, 201), -6);
        DUE.is("best: no room", x.bestTape(3, -1), -1);
        DUE.is("best: below", x.bestTape(0, -1), -4);
        DUE.is("best: above", x.bestTape(0, 201), -6);
    }

    private static void bestDoors() {
        SmellInTheHouse x = Due.house("n3;o00;o10;o20;f104;f202;");
        x.fill(1, 100);
        x.fill(2, 100);
        DUE.is("the one with more", x.bestDoor(0, 1), 1);
        DUE.is("it stays open", x.flow(0, 1, 1), 0);
        DUE.is("in mind alone", x.behind(0, 1), 60);
        x.door(0, 1, true);
        DUE.is("the open one", x.bestDoor(0, 1), 2);
        x.door(0, 2, true);
        DUE.is("none is open", x.bestDoor(0, 1), -9);
        x.door(0, 1, false);
        x.door(0, 2, false);
        x.bestDoor(0, 1);
        DUE.is("in mind all is open again", x.behind(0, 1), 60);
        DUE.is("and shut doors are no more so", x.behind(2, 1), 80);
        x.door(0, 1, true);
        x.door(0, 2, true);
        x.door(0, 2, false);
        DUE.is("now", x.bestDoor(0, 0), -9);
        DUE.is("it would be more", x.bestDoor(2, 1), -9);
        DUE.is("no room", x.bestDoor(3, -1), -1);
        DUE.is("below", x.bestDoor(0, -1), -4);
        DUE.is("above", x.bestDoor(0, 201), -6);
    }

    private static void bestDoorOfSeveral() {
        SmellInTheHouse x = Due.house("n4;o00;o10;o20;o30;f132;f232;");
        x.fill(1, 100);
        x.fill(2, 100);
        DUE.is("of two the least", x.bestDoor(3, 1), 13);
        x.fill(2, 101);
        DUE.is("of two alike but for the cut", x.bestDoor(3, 1), 13);
        x.fill(2, 105);
        DUE.is("the greater", x.bestDoor(3, 1), 23);
    }

    private static void mice() {
        SmellInTheHouse x = Due.house("s40350;s4092;s4040;s10050;s40199;");
        DUE.is("till most", x.mouse(0, 0), 4);
        // 50 times 1 by 4 is 12, so it is 0 with its age.
        DUE.is("till none", x.mouse(0, 1), 8);
        DUE.is("a weak one, till most", x.mouse(1, 0), 10);
        // 2 times 4 by 10 is 0: an age of 4 in minute 16.
        DUE.is("a weak one, till none", x.mouse(1, 1), 16);
        SmellInTheHouse weak = Due.house("s4091;");
        DUE.is("strong 1, till most", weak.mouse(0, 0), 10);
        DUE.is("strong 1, till none", weak.mouse(0, 1), 11);
        DUE.is("strong 0, till most", x.mouse(2, 0), 0);
        DUE.is("strong 0, till none", x.mouse(2, 1), 0);
        DUE.is("nobody", x.mouse(5, 2), -1);
        DUE.is("nobody below", x.mouse(-1, 0), -1);
        DUE.is("what, ahead of the state", x.mouse(3, 2), -2);
        DUE.is("what below", x.mouse(0, -1), -2);
        DUE.is("no mouse", x.mouse(3, 0), -3);
        DUE.is("no mouse either", x.mouse(3, 1), -3);
        x.go(4);
        DUE.is("now most", x.mouse(0, 0), 0);
        DUE.is("4 till none", x.mouse(0, 1), 4);
        x.go(3);
        DUE.is("past most", x.mouse(0, 0), 0);
        DUE.is("1 till none", x.mouse(0, 1), 1);
        x.go(1);
        DUE.is("now none", x.mouse(0, 1), 0);
        x.go(50);
        DUE.is("past none", x.mouse(0, 1), 0);
        DUE.is("all past", x.mouse(1, 1), 0);
        DUE.is("refusals -3", x.count(13), 2);
    }

    private static void seeds() {
        SmellInTheHouse x = Due.house("o00;o10;s30001;s30110;s31250;s31399;");
        int[] gives = {1, 10, 50, 99};
        int[] told = {0, 1, -1, 42, 1103515245, Integer.MAX_VALUE, Integer.MIN_VALUE};
        x.fill(1, 3);
        for (int z : told) {
            long drawn = z;
            long sum = 3;
            for (int n = 1; n <= 50; n++) {
                drawn = (drawn * 1103515245L + 12345L) & 0xffffffffL;
                sum += gives[(int) ((drawn & 0x7fffffffL) / 65536 % 4)];
                DUE.is("seed " + z + ", " + n + " minutes", n % 17 == 1 || n == 50 ? x.seeds(n, z) : sum, sum);
            }
        }
        DUE.is("no wind stays", x.set(0, 0), 0);
        DUE.is("no minute goes by", x.count(3), 0);
        DUE.is("no strength comes", x.count(4), 3);
        DUE.is("none", x.seeds(0, 1), -4);
        DUE.is("below", x.seeds(-1, 1), -4);
        DUE.is("above", x.seeds(51, 1), -6);
    }
}
