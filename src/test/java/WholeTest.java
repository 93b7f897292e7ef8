/** What the document tells first: the house as a whole, 512 calls of one object; and two objects side by side. */
public final class WholeTest {
    private static final Due DUE = new Due("WholeTest");

    public static void main(String[] args) {
        rooms();
        sources();
        strengths();
        noses();
        strongest();
        rounds();
        odds();
        tapes();
        whose();
        mouse();
        sniffsLookedAt();
        seedsLettersImage();
        calls512OfMinutes();
        calls512OfAsking();
        calls512Refused();
        calls512OfLetters();
        laterCalls();
        twoObjects();
        DUE.end();
    }

    private static void rooms() {
        DUE.sentence("A smell in the house: rooms with air that moves by told flows, doors that can be shut, what goes out;");
        SmellInTheHouse x = Due.house("n3;f013;f021;o02;o10;o20;");
        x.fill(0, 100);
        DUE.is("a door is shut", x.door(0, 2, true), 1);
        x.go(1);
        DUE.are("30 go to room 1, none to room 2, 20 out", Due.strengths(x), 50, 30, 0);
        DUE.is("a door is opened", x.door(2, 0, false), 1);
        x.go(1);
        DUE.are("15 and 5 go, 10 out", Due.strengths(x), 20, 45, 5);
    }

    private static void sources() {
        DUE.sentence("sources of kinds that give steadily, at an hour, with a wind, as a mouse does, from next door, hidden, "
                + "thought;");
        SmellInTheHouse x = Due.house("n5;o00;o10;o20;o30;o40;s10010;s21120;s32330;s43140;s54050;");
        DUE.are("steadily, and into the room behind the last one", Due.behind(x, 1), 60, 0, 0, 0, 0);
        DUE.are("at minute 1; most of the mouse's behind minute 2", Due.behind(x, 3), 180, 20, 0, 60, 0);
        x.set(0, 3);
        DUE.are("with wind 3", Due.behind(x, 1), 60, 0, 30, 0, 0);
        SmellInTheHouse y = Due.house("o00;o10;s60051;s71099;s00099;");
        DUE.are("a hidden one's half, no thought one's", Due.behind(y, 2), 0, 52);
    }

    private static void strengths() {
        DUE.sentence("strength room by room, minute by minute;");
        SmellInTheHouse x = Due.house("f014;o05;o10;s10010;");
        DUE.are("at first", Due.strengths(x), 0, 0);
        x.go(1);
        DUE.are("minute 1", Due.strengths(x), 1, 4);
        x.go(1);
        // 11: 4 go to room 1, 5 out.
        DUE.are("minute 2", Due.strengths(x), 2, 8);
        DUE.is("all", x.count(4), 10);
    }

    private static void noses() {
        DUE.sentence("noses of kinds that tell above a line, tire, mend outside;");
        SmellInTheHouse x = Due.house("e0120;e1120;e2120;e3120;");
        x.fill(0, 20);
        DUE.are("the least that each smells", new long[] {x.nose(0, 4), x.nose(1, 4), x.nose(2, 4), x.nose(3, 4)},
                20, 10, 40, 10);
        DUE.are("first", new long[] {x.sniff(0, 0), x.sniff(1, 0), x.sniff(2, 0), x.sniff(3, 0)}, 1, 1, 0, 1);
        DUE.are("tired, but the trained one", new long[] {x.sniff(0, 0), x.sniff(3, 0), x.nose(3, 3)}, 0, 1, 2);
        DUE.is("it mends outside", x.outside(3), 0);
        SmellInTheHouse y = Due.house("e0120;e4120;");
        y.fill(0, 20);
        DUE.are("a sayer says what was said", new long[] {y.sniff(1, 1), y.sniff(0, 0), y.sniff(1, 1)}, 0, 1, 1);
    }

    private static void strongest() {
        DUE.sentence("where it is strongest and is not, when it is strong enough, when to call,");
        SmellInTheHouse x = Due.house("n3;f014;o00;o10;s10030;");
        x.set(1, 50);
        // 18, 12; 48 with what comes: 29, 31.
        DUE.are("behind 2", Due.behind(x, 2), 29, 31, 0);
        DUE.are("strongest, and where nothing gives", new long[] {x.strongest(1, 0), x.strongest(1, 1)}, 0, 1);
        DUE.is("strongest behind 2", x.strongest(2, 0), 1);
        DUE.is("31 in room 1", x.when(1, 31), 2);
        // 59: 23 go to room 1.
        DUE.is("54 in room 1 then", x.call(), 3);
    }

    private static void rounds() {
        DUE.sentence("rounds and what they tell, which sources they tell apart, the round that tells most,");
        SmellInTheHouse x = Due.house("n3;o00;o10;o20;s10010;s11010;s12010;e0950;");
        x.fill(2, 50);
        Due.places(x, 0, 1, 2);
        DUE.is("only room 2 has so much, behind 2 minutes too", x.says(0), 4);
        DUE.are("each one alone", new long[] {x.alone(0, 0), x.alone(0, 1), x.alone(0, 2)}, 1, 2, 4);
        DUE.is("all pairs apart", x.apart(0), 3);
        DUE.are("room 0, then room 1: 1, 2, 0", new long[] {x.bestRound(0, 2, 0), x.bestRound(0, 2, 1)}, 10, 3);
    }

    private static void odds() {
        DUE.sentence("odds of what it is and whether there is any,");
        SmellInTheHouse x = Due.house("o00;o10;s10010;s11010;e0950;");
        Due.places(x, 0, 1);
        // 90 * 90 and 10 * 10; none: 10 * 90.
        DUE.are("it is source 0", new long[] {x.odds(0, 0, 1, 0), x.odds(0, 0, 1, 1)}, 81, 82);
        DUE.are("there is any", new long[] {x.any(0, 1, 0), x.any(0, 1, 1)}, 82, 91);
    }

    private static void tapes() {
        DUE.sentence("what to tape, which door to shut,");
        SmellInTheHouse x = Due.house("n3;f014;f214;o00;o10;o20;s10010;s12030;");
        DUE.is("both come", x.behind(1, 1), 16);
        DUE.are("taped", new long[] {x.tape(0, 1, 1), x.tape(1, 1, 1), x.tape(2, 1, 1)}, 12, 16, 4);
        DUE.is("best tape", x.bestTape(1, 1), 2);
        DUE.is("best door", x.bestDoor(1, 1), 12);
    }

    private static void whose() {
        DUE.sentence("how much of it is whose,");
        SmellInTheHouse x = Due.house("f014;o00;o10;s10010;s11030;");
        DUE.are("in room 1", new long[] {x.behind(1, 1), x.share(0, 1, 1), x.share(1, 1, 1)}, 34, 4, 30);
    }

    private static void mouse() {
        DUE.sentence("days of a mouse,");
        SmellInTheHouse x = Due.house("s40450;");
        DUE.are("most, none", new long[] {x.mouse(0, 0), x.mouse(0, 1)}, 5, 10);
        x.go(3);
        DUE.are("from minute 3 on", new long[] {x.mouse(0, 0), x.mouse(0, 1), x.source(0, 4)}, 2, 7, 30);
    }

    private static void sniffsLookedAt() {
        DUE.sentence("told sniffs looked at,");
        SmellInTheHouse x = Due.house("o00;o10;s10010;s11010;e0950;");
        Due.places(x, 0, 1);
        DUE.are("likely", new long[] {x.likely(0, 1), x.likely(0, 2), x.likely(0, 3)}, 0, 1, 0);
    }

    private static void seedsLettersImage() {
        DUE.sentence("minutes by seeds, houses told in letters, an image. ==== I.");
        SmellInTheHouse x = Due.house("o00;o10;s30010;");
        // 0 becomes 12345, that over 65536 is 0: the wind is 0, as the source's figure.
        DUE.is("a minute by a seed", x.seeds(1, 0), 10);
        DUE.is("a house told in letters", Due.tell(x, "n4;x03;"), 2);
        DUE.are("it stands", new long[] {x.count(0), x.flow(3, 0, 1)}, 4, 1);
        x.go(2);
        DUE.is("an image", x.image(), 2);
        x.go(7);
        x.door(0, 3, false);
        DUE.are("restored", new long[] {x.restore(), x.flow(0, 3, 1), x.room(0, 0)}, 2, 1, 20);
    }

    private static void sentenceOf512() {
        DUE.sentence("An object is used for at most 512 calls after it has been made; what later calls answer is free.");
    }

    private static void calls512OfMinutes() {
        sentenceOf512();
        String letters = "o00;o10;s1001;";
        SmellInTheHouse x = Due.house(letters);
        int calls = letters.length() + 1;
        for (int minute = 1; calls < 511; minute++) {
            DUE.is("go", x.go(1), minute);
            calls++;
        }
        DUE.is("the last of 512", x.behind(0, 200), 496 + 200);
    }

    private static void calls512OfAsking() {
        sentenceOf512();
        String letters = "n5;f012;f123;f234;f341;f402;s10090;s21180;s41570;s53060;s62050;e3110;";
        SmellInTheHouse x = Due.house(letters);
        int calls = letters.length() + 1;
        long[] first = {x.bestRound(0, 3, 0), x.bestRound(0, 3, 1), x.bestDoor(4, 200), x.bestTape(4, 200), x.call(),
            x.still(), x.when(4, 9999), x.seeds(50, 7)};
        calls += first.length;
        while (calls + first.length <= 512) {
            DUE.are("always alike", new long[] {x.bestRound(0, 3, 0), x.bestRound(0, 3, 1), x.bestDoor(4, 200),
                x.bestTape(4, 200), x.call(), x.still(), x.when(4, 9999), x.seeds(50, 7)}, first);
            calls += first.length;
        }
        DUE.is("up to the last one", 512 - calls < first.length ? 1 : 0, 1);
    }

    private static void calls512Refused() {
        sentenceOf512();
        SmellInTheHouse x = new SmellInTheHouse();
        for (int call = 1; call <= 511; call++) {
            DUE.is("nobody", x.sniff(0, 0), -1);
        }
        DUE.is("the last of 512", x.count(11), 511);
    }

    private static void calls512OfLetters() {
        sentenceOf512();
        SmellInTheHouse x = new SmellInTheHouse();
        int calls = 0;
        int statements = 0;
        // 18 doors turned a time: 72 letters and the house.
        for (int times = 0; times < 7; times++) {
            for (int i = 0; i < 18; i++) {
                Due.feed(x, "x01;");
                calls += 4;
            }
            statements += x.house();
            calls++;
        }
        DUE.is("511 calls", calls, 511);
        DUE.is("all statements came", statements, 7 * 18);
        DUE.is("the last of 512: open, as turned " + statements + " times", x.flow(0, 1, 1), 0);
    }

    private static void laterCalls() {
        sentenceOf512();
        SmellInTheHouse x = Due.house("n5;f012;o00;s10099;e3110;");
        for (int call = 0; call < 5000; call++) {
            x.go(99);
            x.sniff(0, call % 6);
            x.seeds(50, call);
            x.row(call % 10);
            x.feed(call % 300);
            x.image();
            x.bestRound(0, 1, 0);
        }
        DUE.is("none of them throws", x.count(15), 0);
    }

    /** How the state is held is free, but it is held inside the object. */
    private static void twoObjects() {
        DUE.sentence("How the state is held inside the object is free,");
        SmellInTheHouse x = new SmellInTheHouse();
        SmellInTheHouse y = new SmellInTheHouse();
        Due.feed(x, "n3;f0");
        Due.feed(y, "n5;s1");
        Due.feed(x, "12;o00;s1");
        Due.feed(y, "4409;e0310;");
        Due.feed(x, "0050;e0310;");
        DUE.are("houses", new long[] {x.house(), y.house()}, 5, 3);
        x.go(1);
        y.go(2);
        x.image();
        y.door(0, 4, true);
        DUE.are("rooms", new long[] {x.count(0), y.count(0), x.count(3), y.count(3)}, 3, 5, 1, 2);
        DUE.are("strengths of one", Due.strengths(x), 40, 10, 0);
        DUE.are("strengths of the other", Due.strengths(y), 0, 0, 0, 0, 17);
        DUE.are("in mind", new long[] {x.behind(0, 1), y.behind(4, 1), x.behind(1, 1)}, 72, 24, 27);
        DUE.are("noses", new long[] {x.sniff(0, 0), y.nose(0, 3), y.sniff(0, 4), x.nose(0, 3)}, 1, 0, 1, 1);
        DUE.are("refusals", new long[] {y.restore(), x.count(13), y.count(13)}, -3, 0, 1);
        DUE.are("rows", new long[] {x.row(2), y.row(4), x.row(1), y.count(6)}, 1, 1, 2, 1);
        DUE.are("restored", new long[] {x.restore(), y.count(3), y.count(7), x.nose(0, 3), y.nose(0, 3)}, 1, 2, 1, 0, 1);
    }
}
