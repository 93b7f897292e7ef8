/** Promises 1 to 7 and 36: a new object, letters, houses, what there is. */
public final class HouseToldTest {
    private static final Due DUE = new Due("HouseToldTest");

    public static void main(String[] args) {
        newObject();
        feed();
        houses();
        housesGrow();
        faultsOfForm();
        faultsOfForm2();
        faultsOfSense();
        nothingComesWithAFault();
        rooms();
        flows();
        sources();
        gives();
        mousesGive();
        targets();
        noses();
        counts();
        DUE.end();
    }

    private static void newObject() {
        SmellInTheHouse x = new SmellInTheHouse();
        DUE.is("new rooms", x.count(0), 2);
        for (int what = 1; what <= 7; what++) {
            DUE.is("new count " + what, x.count(what), 0);
        }
        DUE.is("new strength", x.room(1, 0), 0);
        DUE.is("new out", x.room(1, 1), 1);
        DUE.is("new flow", x.flow(0, 1, 0), 0);
        DUE.is("new door", x.flow(0, 1, 1), 0);
        DUE.is("new wind", x.set(0, 0), 0);
        DUE.is("new danger", x.set(1, 1), 200);
        DUE.is("new slip", x.set(2, 0), 10);
    }

    private static void feed() {
        SmellInTheHouse x = new SmellInTheHouse();
        DUE.is("a letter 0", x.feed(0), 1);
        DUE.is("a letter 255", x.feed(255), 2);
        DUE.is("a letter -1", x.feed(-1), -4);
        DUE.is("a letter least", x.feed(Integer.MIN_VALUE), -4);
        DUE.is("a letter 256", x.feed(256), -6);
        DUE.is("a letter greatest", x.feed(Integer.MAX_VALUE), -6);
        for (int i = 3; i <= 72; i++) {
            DUE.is("letter " + i, x.feed('n'), i);
        }
        DUE.is("letter 73", x.feed('n'), -6);
        DUE.is("a letter below 0 with no room", x.feed(-1), -4);
        DUE.is("letters", x.count(5), 72);
        DUE.is("its refusals -4", x.count(14), 3);
        DUE.is("its refusals -6", x.count(16), 3);
        DUE.is("fault", x.house(), -1000);
        DUE.is("letters then", x.count(5), 0);
        DUE.is("a letter then", x.feed('n'), 1);
    }

    private static void houses() {
        SmellInTheHouse x = new SmellInTheHouse();
        DUE.is("all statements", Due.tell(x, "n4;f014;o25;s6399;e4910;x03;s10007;"), 7);
        DUE.is("rooms", x.count(0), 4);
        DUE.is("flow", x.flow(0, 1, 0), 4);
        DUE.is("flow back", x.flow(1, 0, 0), 0);
        DUE.is("out", x.room(2, 1), 5);
        DUE.is("door", x.flow(0, 3, 1), 1);
        DUE.is("door back", x.flow(3, 0, 1), 1);
        DUE.is("strong of one digit", x.source(0, 2), 9);
        DUE.is("strong of two digits", x.source(1, 2), 7);
        DUE.is("line", x.nose(0, 1), 10);
        DUE.is("letters", x.count(5), 0);
        DUE.is("a door turned back", Due.tell(x, "x30;"), 1);
        DUE.is("open", x.flow(0, 3, 1), 0);
        DUE.is("turned twice", Due.tell(x, "x03;x30;"), 2);
        DUE.is("open still", x.flow(0, 3, 1), 0);
        DUE.is("flow told anew", Due.tell(x, "f010;"), 1);
        DUE.is("flow then", x.flow(0, 1, 0), 0);
        DUE.is("24 statements in 72 letters", Due.tell(x, "n4;".repeat(24)), 24);
    }

    private static void housesGrow() {
        SmellInTheHouse x = Due.house("n5;o40;f434;");
        DUE.is("as many rooms", Due.tell(x, "n5;"), 1);
        DUE.is("fewer rooms", Due.tell(x, "n4;"), -2000);
        x = new SmellInTheHouse();
        DUE.is("a room that comes ahead", Due.tell(x, "n3;o29;"), 2);
        DUE.is("a room that comes behind", Due.tell(x, "o39;n4;"), -2000);
        DUE.is("fewer behind more", Due.tell(x, "n5;n4;"), -2003);
        DUE.is("rooms then", x.count(0), 3);
    }

    private static void faultsOfForm() {
        fault("", -1000);
        fault(";", -1000);
        fault("n", -1001);
        fault("n3", -1002);
        fault("n33", -1002);
        fault("nn", -1001);
        fault("n3;n", -1004);
        fault("n3;;", -1003);
        fault("N3;", -1000);
        fault("3", -1000);
        fault("f", -1001);
        fault("f0", -1002);
        fault("f01", -1003);
        fault("f01;", -1003);
        fault("f012", -1004);
        fault("f0123;", -1004);
        fault("o0;", -1002);
        fault("o000;", -1003);
        fault("x0", -1002);
        fault("x0;", -1002);
        fault("x012", -1003);
        fault("s100", -1004);
        fault("s100;", -1004);
        fault("s1000", -1005);
        fault("s10000", -1006);
        fault("s100000", -1006);
        fault("s1000x", -1005);
        fault("e01", -1003);
        fault("e01;", -1003);
        fault("e011", -1004);
        fault("e0111", -1005);
        fault("e01111;", -1005);
    }

    private static void faultsOfForm2() {
        fault("n" + (char) ('0' - 1), -1001);
        fault("n" + (char) ('9' + 1), -1001);
        fault("n" + (char) 0, -1001);
        fault("n" + (char) 255, -1001);
        fault("n3 ", -1002);
        fault("n3;\n", -1003);
        // The form goes ahead of the sense, wherever they are.
        fault("n9;n", -1004);
        fault("f000;z", -1005);
        // 72 letters that lack what no 73rd can bring: the end.
        fault("n2;".repeat(23) + "n22", -1071);
        fault("n2;".repeat(23) + "s10", -1072);
    }

    private static void faultsOfSense() {
        fault("n1;", -2000);
        fault("n0;", -2000);
        fault("n6;", -2000);
        fault("n2;n6;", -2003);
        fault("f000;", -2000);
        fault("f010;f110;", -2005);
        fault("f015;", -2000);
        fault("f024;", -2000);
        fault("f204;", -2000);
        fault("o20;", -2000);
        fault("x00;", -2000);
        fault("x02;", -2000);
        fault("x20;", -2000);
        fault("s80000;", -2000);
        fault("s02000;", -2000);
        fault("s00000;".repeat(5) + "s00000;", -2035);
        fault("e0010;", -2000);
        fault("e0100;", -2000);
        fault("e010;", -2000);
        fault("e5110;", -2000);
        fault("e0110;".repeat(4) + "e0110;", -2024);
        fault("n3;n2;n9;", -2003);
        // All five sources and four noses find room.
        Due.house("s70000;".repeat(5));
        Due.house("e4999;".repeat(4));
    }

    private static void fault(String letters, int due) {
        SmellInTheHouse x = new SmellInTheHouse();
        DUE.is("house " + letters, Due.tell(x, letters), due);
        DUE.is("letters behind " + letters, x.count(5), 0);
        for (int what = 11; what <= 16; what++) {
            DUE.is("refusals " + what + " behind " + letters, x.count(what), 0);
        }
    }

    private static void nothingComesWithAFault() {
        SmellInTheHouse x = new SmellInTheHouse();
        DUE.is("a fault at the end", Due.tell(x, "n3;f014;o05;s10050;e0110;x01;n1;"), -2029);
        DUE.is("rooms", x.count(0), 2);
        DUE.is("flow", x.flow(0, 1, 0), 0);
        DUE.is("out", x.room(0, 1), 1);
        DUE.is("sources", x.count(1), 0);
        DUE.is("noses", x.count(2), 0);
        DUE.is("doors", x.count(7), 0);
        DUE.is("what came with it comes not later either", Due.tell(x, "x01;"), 1);
        DUE.is("sources then", x.count(1), 0);
        DUE.is("out then", x.room(0, 1), 1);
    }

    private static void rooms() {
        SmellInTheHouse x = Due.house("n3;o29;");
        x.fill(2, 77);
        DUE.is("strength", x.room(2, 0), 77);
        DUE.is("out", x.room(2, 1), 9);
        DUE.is("no room below", x.room(-1, 0), -1);
        DUE.is("no room above", x.room(3, 0), -1);
        DUE.is("no room ahead of what", x.room(5, 9), -1);
        DUE.is("what above", x.room(0, 2), -2);
        DUE.is("what below", x.room(0, -1), -2);
        DUE.is("refusals -1", x.count(11), 3);
        DUE.is("refusals -2", x.count(12), 2);
    }

    private static void flows() {
        SmellInTheHouse x = Due.house("n3;f023;x12;");
        DUE.is("flow", x.flow(0, 2, 0), 3);
        DUE.is("open", x.flow(0, 2, 1), 0);
        DUE.is("shut", x.flow(1, 2, 1), 1);
        DUE.is("shut back", x.flow(2, 1, 1), 1);
        DUE.is("one twice", x.flow(1, 1, 0), -1);
        DUE.is("no from", x.flow(3, 1, 0), -1);
        DUE.is("no to", x.flow(1, 3, 0), -1);
        DUE.is("no from below", x.flow(-1, 1, 0), -1);
        DUE.is("no to below", x.flow(1, -1, 0), -1);
        DUE.is("nobody ahead of what", x.flow(0, 0, 2), -1);
        DUE.is("what", x.flow(0, 1, 2), -2);
        DUE.is("what below", x.flow(0, 1, -1), -2);
    }

    private static void sources() {
        SmellInTheHouse x = Due.house("n3;s22745;s0000;");
        DUE.is("kind", x.source(0, 0), 2);
        DUE.is("room", x.source(0, 1), 2);
        DUE.is("strong", x.source(0, 2), 45);
        DUE.is("figure", x.source(0, 3), 7);
        DUE.is("nobody", x.source(2, 0), -1);
        DUE.is("nobody below", x.source(-1, 0), -1);
        DUE.is("nobody ahead of what", x.source(2, 6), -1);
        DUE.is("what", x.source(1, 6), -2);
        DUE.is("what below", x.source(1, -1), -2);
    }

    private static void gives() {
        SmellInTheHouse x = Due.house("s00050;s10051;s20352;s30753;s60055;");
        DUE.is("smell", x.source(0, 4), 0);
        DUE.is("steady", x.source(1, 4), 51);
        DUE.is("daily at 0", x.source(2, 4), 0);
        DUE.is("winded at 0", x.source(3, 4), 0);
        DUE.is("hidden, up", x.source(4, 4), 28);
        x.set(0, 3);
        DUE.is("winded, wind as its figure modulo 4", x.source(3, 4), 53);
        x.go(3);
        DUE.is("daily at 3", x.source(2, 4), 52);
        x.go(1);
        DUE.is("daily at 4", x.source(2, 4), 0);
        x.go(9);
        DUE.is("daily at 13", x.source(2, 4), 52);
        x = Due.house("s50054;s70099;s6004;");
        DUE.is("carried", x.source(0, 4), 54);
        DUE.is("thought", x.source(1, 4), 0);
        DUE.is("hidden of an even one", x.source(2, 4), 2);
    }

    private static void mousesGive() {
        SmellInTheHouse x = Due.house("s40350;s40010;");
        long[] four = new long[11];
        long[] one = new long[11];
        for (int t = 0; t < 11; t++) {
            four[t] = x.source(0, 4);
            one[t] = x.source(1, 4);
            x.go(1);
        }
        DUE.are("a mouse of figure 3", four, 0, 12, 25, 37, 50, 37, 25, 12, 0, 0, 0);
        DUE.are("a mouse of figure 0", one, 0, 10, 0, 0, 0, 0, 0, 0, 0, 0, 0);
    }

    private static void targets() {
        SmellInTheHouse x = Due.house("s5009;s5109;s6109;s4109;s7109;");
        DUE.is("carried on", x.source(0, 5), 1);
        DUE.is("carried round", x.source(1, 5), 0);
        DUE.is("hidden round", x.source(2, 5), 0);
        DUE.is("a mouse", x.source(3, 5), 1);
        DUE.is("thought", x.source(4, 5), 1);
        Due.tell(x, "n3;");
        DUE.is("carried in more rooms", x.source(1, 5), 2);
        DUE.is("hidden in more rooms", x.source(2, 5), 2);
        x = Due.house("s0109;");
        DUE.is("smell", x.source(0, 5), 1);
    }

    private static void noses() {
        SmellInTheHouse x = Due.house("e0511;e1511;e2511;e3511;");
        DUE.is("kind", x.nose(3, 0), 3);
        DUE.is("line", x.nose(1, 1), 11);
        DUE.is("tires", x.nose(2, 2), 5);
        DUE.is("tired", x.nose(0, 3), 0);
        DUE.is("from which on", x.nose(0, 4), 11);
        DUE.is("from which on, keen", x.nose(1, 4), 6);
        DUE.is("from which on, cold", x.nose(2, 4), 22);
        DUE.is("from which on, trained", x.nose(3, 4), 6);
        x.fill(0, 11);
        x.sniff(0, 0);
        DUE.is("tired then", x.nose(0, 3), 1);
        DUE.is("from which on, as untired", x.nose(0, 4), 11);
        DUE.is("nobody", x.nose(4, 0), -1);
        DUE.is("nobody below", x.nose(-1, 0), -1);
        DUE.is("nobody ahead of what", x.nose(4, 5), -1);
        DUE.is("what", x.nose(0, 5), -2);
        DUE.is("what below", x.nose(0, -1), -2);
        x = Due.house("e4512;e1101;");
        DUE.is("from which on, sayer", x.nose(0, 4), 12);
        DUE.is("from which on, keen of 1", x.nose(1, 4), 1);
    }

    private static void counts() {
        SmellInTheHouse x = Due.house("n4;s1009;s1009;e0110;x01;x23;");
        x.fill(0, 30);
        x.fill(3, 4);
        x.row(0);
        x.feed('n');
        x.feed('n');
        DUE.is("rooms", x.count(0), 4);
        DUE.is("sources", x.count(1), 2);
        DUE.is("noses", x.count(2), 1);
        DUE.is("minute", x.count(3), 0);
        DUE.is("strengths", x.count(4), 34);
        DUE.is("letters", x.count(5), 2);
        DUE.is("in the row", x.count(6), 1);
        DUE.is("shut doors", x.count(7), 2);
        x.go(7);
        DUE.is("minute then", x.count(3), 7);
        x.restore();
        x.restore();
        DUE.is("refusals -3", x.count(13), 2);
        DUE.is("refusals -5", x.count(15), 0);
        int[] others = {8, 9, 10, 17, -1, Integer.MIN_VALUE, Integer.MAX_VALUE};
        for (int what : others) {
            DUE.is("count " + what, x.count(what), -9);
        }
        DUE.is("they are no refusals", x.count(12), 0);
    }
}
