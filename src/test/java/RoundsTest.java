/** Promises 23 to 31: the row, rounds and what they tell. */
public final class RoundsTest {
    private static final Due DUE = new Due("RoundsTest");

    public static void main(String[] args) {
        rows();
        saysNow();
        saysTired();
        saysOfASayer();
        roomsNotThere();
        alone();
        aloneMinutes();
        aloneAtTen();
        apart();
        bestRounds();
        bestRoundOfDays();
        bestRoundAlike();
        odds();
        oddsOfPlaces();
        oddsWithoutSlip();
        oddsBig();
        any();
        likely();
        refusals();
        DUE.end();
    }

    private static void rows() {
        SmellInTheHouse x = Due.house("n3;");
        DUE.is("a place", x.row(2), 1);
        DUE.is("outside", x.row(9), 2);
        DUE.is("the same", x.row(2), 3);
        DUE.is("no room 3", x.row(3), -1);
        DUE.is("no room 8", x.row(8), -1);
        DUE.is("no room 10", x.row(10), -1);
        DUE.is("no room -1", x.row(-1), -1);
        for (int i = 4; i <= 8; i++) {
            DUE.is("place " + i, x.row(9), i);
        }
        DUE.is("place 9", x.row(0), -6);
        DUE.is("place 9, outside", x.row(9), -6);
        DUE.is("nobody ahead of it", x.row(3), -1);
        DUE.is("in the row", x.count(6), 8);
        DUE.is("cleared", x.clear(), 8);
        DUE.is("cleared again", x.clear(), 0);
        DUE.is("in the row then", x.count(6), 0);
        DUE.is("a place then", x.row(0), 1);
    }

    private static void saysNow() {
        SmellInTheHouse x = Due.house("n3;o00;o10;o20;f014;s12006;e0910;");
        DUE.is("an empty round", x.says(0), 0);
        x.fill(0, 20);
        Due.places(x, 0, 0, 1, 2, 9, 2, 1);
        // 0: 20, 12, 8, 6; 1: 0, 8, 12, 14 ..; 2: 0, 6, 12, 18 ..
        DUE.is("by the minute", x.says(0), 1 + 2 + 4 + 8 + 32 + 64);
        DUE.is("nothing changed", x.room(0, 0), 20);
        DUE.is("untired still", x.nose(0, 3), 0);
        DUE.is("no minute", x.count(3), 0);
        x.door(0, 1, true);
        DUE.is("with a shut door", x.says(0), 1 + 2 + 8 + 32);
        x.clear();
        Due.places(x, 2, 2, 2);
        DUE.is("ahead of the first no minute goes by", x.says(0), 4);
    }

    private static void saysTired() {
        SmellInTheHouse x = Due.house("o00;e0210;");
        x.fill(0, 10);
        Due.places(x, 0, 0, 0, 0, 9, 0, 0, 0);
        // Tired 1, 2, 1, 2, 0, 1, 2, 1.
        DUE.is("it tires and mends", x.says(0), 1 + 2 + 8 + 32 + 64);
        x.sniff(0, 0);
        x.sniff(0, 0);
        DUE.is("tired as it is", x.says(0), 2 + 8 + 32 + 64);
        DUE.is("tired still", x.nose(0, 3), 2);
    }

    private static void saysOfASayer() {
        SmellInTheHouse x = Due.house("o00;e4110;e0110;");
        x.fill(0, 10);
        x.sniff(1, 0);
        Due.places(x, 1, 0, 1, 9, 1);
        DUE.is("itself ahead alone", x.says(0), 2 + 4 + 16);
        DUE.is("not so the other, tired now", x.says(1), 2);
        DUE.is("said ahead still, out of mind", x.sniff(0, 1), 1);
    }

    private static void roomsNotThere() {
        SmellInTheHouse x = Due.house("o00;o10;s10099;e4901;");
        x.image();
        Due.tell(x, "n3;");
        x.fill(2, 99);
        Due.places(x, 2, 0, 2);
        DUE.is("while it is there", x.says(0), 7);
        x.restore();
        DUE.is("in the row still", x.count(6), 3);
        DUE.is("it has nothing", x.says(0), 6);
        DUE.is("alone too", x.alone(0, 0), 6);
        // A place all the same: what is told of it can be wrong.
        x.set(2, 0);
        DUE.is("told of it what cannot be", x.odds(0, 0, 7, 0), 0);
        DUE.is("told of it what must be", x.odds(0, 0, 6, 0), 1);
        DUE.is("not likely", x.likely(0, 7), -9);
        DUE.is("likely", x.likely(0, 6), 0);
        Due.tell(x, "n3;f024;");
        DUE.is("come again", x.says(0), 6);
    }

    private static void alone() {
        SmellInTheHouse x = Due.house("n3;s10010;s11050;s71099;e0150;e3220;");
        Due.places(x, 0, 1, 2);
        // Steady of 10: 10 9, 19 18, 28 26, .. below 20 never: 10 minutes make 61 or so.
        x.fill(2, 9999);
        x.sniff(0, 2);
        DUE.is("strengths are thought away", x.alone(0, 2), 0);
        DUE.is("the second", x.alone(0, 1), 2);
        DUE.is("keen and untired", x.alone(1, 0), 1);
        DUE.is("strength stays", x.room(2, 0), 9999);
        DUE.is("tired stays", x.nose(0, 3), 1);
        DUE.is("no nose", x.alone(2, 0), -1);
        DUE.is("no nose below", x.alone(-1, 0), -1);
        DUE.is("no source", x.alone(0, 3), -1);
        DUE.is("no source below", x.alone(0, -1), -1);
    }

    /** 10 minutes ahead of it: none more, none less; and what was given is there whole. */
    private static void aloneMinutes() {
        SmellInTheHouse x = Due.house("o00;s10003;s10002;e0930;e0931;e0933;e0934;");
        Due.places(x, 0, 0);
        DUE.is("30 at once", x.alone(0, 0), 3);
        DUE.is("31 behind a minute", x.alone(1, 0), 2);
        DUE.is("33 behind a minute", x.alone(2, 0), 2);
        DUE.is("34 never", x.alone(3, 0), 0);
        DUE.is("20 of the other", x.alone(0, 1), 0);
    }

    /** From minute 0 on, whatever the minute is; with the wind and the doors there are. */
    private static void aloneAtTen() {
        SmellInTheHouse x = Due.house("o00;o10;s20010;s20920;s30215;s40550;f014;e0910;");
        Due.places(x, 0, 0);
        DUE.is("daily of minute 0", x.alone(0, 0), 0);
        x.go(7);
        DUE.is("daily of minute 0, later", x.alone(0, 0), 0);
        SmellInTheHouse y = Due.house("o09;s20950;e0905;");
        y.row(0);
        DUE.is("given in the tenth minute", y.alone(0, 0), 1);
        y.go(7);
        DUE.is("given in the tenth minute, later", y.alone(0, 0), 1);
        x.door(0, 1, true);
        DUE.is("with the door shut", x.alone(0, 0), 3);
        DUE.is("daily of minute 9", x.alone(0, 1), 3);
        DUE.is("no wind", x.alone(0, 2), 0);
        x.set(0, 2);
        DUE.is("wind", x.alone(0, 2), 3);
        DUE.is("a mouse", x.alone(0, 3), 3);
    }

    private static void apart() {
        SmellInTheHouse x = Due.house("n3;s10050;s11050;s12050;s10020;s01099;e0110;");
        DUE.is("an empty round", x.apart(0), 0);
        x.row(0);
        // 0 and 3 tell 1, the others 0.
        DUE.is("a room", x.apart(0), 6);
        x.row(1);
        // 1, 2, 0, 1, 0.
        DUE.is("two rooms", x.apart(0), 8);
        DUE.is("nobody", x.apart(1), -1);
        DUE.is("nobody below", x.apart(-1), -1);
        x = Due.house("e0110;");
        x.row(0);
        DUE.is("no sources", x.apart(0), 0);
    }

    private static void bestRounds() {
        SmellInTheHouse x = Due.house("n4;s12050;s13050;s11050;e0910;");
        x.row(3);
        DUE.is("1", x.bestRound(0, 1, 0), 1);
        DUE.is("1: apart", x.bestRound(0, 1, 1), 2);
        DUE.is("2", x.bestRound(0, 2, 0), 21);
        DUE.is("2: apart", x.bestRound(0, 2, 1), 3);
        // 0, 1, 2 is ahead of 1, 2, .. by its first place.
        DUE.is("3", x.bestRound(0, 3, 0), 210);
        DUE.is("3: apart", x.bestRound(0, 3, 1), 3);
        DUE.is("the row stays", x.count(6), 1);
        DUE.is("nobody", x.bestRound(1, 0, 2), -1);
        DUE.is("nobody below", x.bestRound(-1, 1, 0), -1);
        DUE.is("what", x.bestRound(0, 0, 2), -2);
        DUE.is("what below", x.bestRound(0, 1, -1), -2);
        DUE.is("0", x.bestRound(0, 0, 0), -4);
        DUE.is("4", x.bestRound(0, 4, 0), -6);
    }

    /** One room again and again tells days apart. */
    private static void bestRoundOfDays() {
        SmellInTheHouse x = Due.house("o19;s21150;s21050;s21950;e0910;");
        SmellInTheHouse y = Due.house("o19;s21150;s21050;s21950;e0910;");
        int most = -1;
        int due = -1;
        for (int a = 0; a < 2; a++) {
            for (int b = 0; b < 2; b++) {
                for (int c = 0; c < 2; c++) {
                    y.clear();
                    Due.places(y, a, b, c);
                    if (y.apart(0) > most) {
                        most = y.apart(0);
                        due = a + 10 * b + 100 * c;
                    }
                }
            }
        }
        DUE.is("as apart tells, round by round", x.bestRound(0, 3, 0), due);
        DUE.is("how many", x.bestRound(0, 3, 1), most);
    }

    private static void bestRoundAlike() {
        SmellInTheHouse x = Due.house("n5;e0910;");
        DUE.is("no sources", x.bestRound(0, 3, 0), 0);
        DUE.is("no sources: apart", x.bestRound(0, 3, 1), 0);
        Due.tell(x, "s14099;");
        DUE.is("one source", x.bestRound(0, 2, 0), 0);
        DUE.is("one source: apart", x.bestRound(0, 2, 1), 0);
        Due.tell(x, "s13099;");
        DUE.is("two", x.bestRound(0, 3, 0), 300);
        DUE.is("two, one room", x.bestRound(0, 1, 0), 3);
    }

    private static SmellInTheHouse threeAlone() {
        SmellInTheHouse x = Due.house("n3;s10050;s11050;s12050;e0910;");
        Due.places(x, 0, 1);
        return x;
    }

    private static void odds() {
        SmellInTheHouse x = threeAlone();
        // They tell 1, 2, 0; told 1: 90 90, 10 10, 10 90.
        DUE.is("above", x.odds(0, 0, 1, 0), 81);
        DUE.is("below", x.odds(0, 0, 1, 1), 91);
        DUE.is("the second", x.odds(1, 0, 1, 0), 1);
        DUE.is("the second, below", x.odds(1, 0, 1, 1), 91);
        DUE.is("the third", x.odds(2, 0, 1, 0), 9);
        DUE.is("told 3: 9 9 1", x.odds(0, 0, 3, 1), 19);
        DUE.is("bits behind the round", x.odds(0, 0, 253, 0), 81);
        x.set(2, 50);
        DUE.is("a half slips", x.odds(1, 0, 1, 0), 1);
        DUE.is("a half slips, below", x.odds(1, 0, 1, 1), 3);
        x.clear();
        x.set(2, 0);
        DUE.is("an empty round", x.odds(0, 0, 255, 0), 1);
        DUE.is("an empty round, below", x.odds(0, 0, 255, 1), 3);
    }

    private static void oddsOfPlaces() {
        SmellInTheHouse x = threeAlone();
        x.clear();
        Due.places(x, 9, 0, 9);
        DUE.is("outside is not looked at", x.odds(0, 0, 255, 0), 9);
        DUE.is("outside, below", x.odds(0, 0, 255, 1), 11);
        DUE.is("outside, the other way", x.odds(0, 0, 2, 0), 9);
        DUE.is("told nothing", x.odds(0, 0, 0, 1), 19);
        x.clear();
        Due.places(x, 9, 9);
        DUE.is("outside alone", x.odds(2, 0, 3, 1), 3);
    }

    private static void oddsWithoutSlip() {
        SmellInTheHouse x = threeAlone();
        x.set(2, 0);
        DUE.is("for sure", x.odds(0, 0, 1, 0), 1);
        DUE.is("for sure, below", x.odds(0, 0, 1, 1), 1);
        DUE.is("for sure not", x.odds(1, 0, 1, 0), 0);
        DUE.is("for sure not, below", x.odds(1, 0, 1, 1), 1);
        DUE.is("all 0", x.odds(0, 0, 3, 0), 0);
        DUE.is("all 0, below", x.odds(0, 0, 3, 1), 1);
        DUE.is("any: all 0", x.any(0, 3, 0), 0);
        DUE.is("any: all 0, below", x.any(0, 3, 1), 1);
        DUE.is("any: for sure", x.any(0, 1, 0), 1);
        DUE.is("any: for sure, below", x.any(0, 1, 1), 1);
        DUE.is("any: or none", x.any(0, 0, 1), 2);
    }

    /** Eight places: the weights come near to what a long holds. */
    private static void oddsBig() {
        SmellInTheHouse x = Due.house("s10099;s11099;s70099;s70099;s70099;e0901;");
        Due.places(x, 0, 0, 0, 0, 1, 1, 1, 1);
        x.set(2, 1);
        // They tell 15, 240, 0, 0, 0; told 0: 99^4 each, and 99^8 thrice.
        long most = 1;
        for (int i = 0; i < 4; i++) {
            most *= 99;
        }
        // By 99^4: 1, 1, 99^4 thrice; the sum is 2 more than thrice 99^4.
        DUE.is("above", x.odds(0, 0, 0, 0), 1);
        DUE.is("below", x.odds(0, 0, 0, 1), 3 * most + 2);
        DUE.is("of three alike", x.odds(2, 0, 0, 0), most);
        // None is 99^4 too, and 99^4 is odd: nothing shortens.
        DUE.is("any, below", x.any(0, 0, 1), 4 * most + 2);
        DUE.is("any, above", x.any(0, 0, 0), 3 * most + 2);
        x.set(2, 0);
        DUE.is("100 to the eighth", x.odds(4, 0, 0, 1), 3);
    }

    private static void any() {
        SmellInTheHouse x = threeAlone();
        // Told 1: 81, 1, 9, and none 9.
        DUE.is("above", x.any(0, 1, 0), 91);
        DUE.is("below", x.any(0, 1, 1), 100);
        // Told 0: 9, 9, 81, and none 81.
        DUE.is("told nothing", x.any(0, 0, 0), 11);
        DUE.is("told nothing, below", x.any(0, 0, 1), 20);
        x = Due.house("e0910;");
        DUE.is("no sources", x.any(0, 0, 0), 0);
        DUE.is("no sources, below", x.any(0, 0, 1), 1);
        x.row(0);
        DUE.is("no sources, a place", x.any(0, 1, 0), 0);
        DUE.is("no sources, a place, below", x.any(0, 1, 1), 1);
        x = Due.house("s10099;e0910;");
        DUE.is("an empty round", x.any(0, 9, 0), 1);
        DUE.is("an empty round, below", x.any(0, 9, 1), 2);
    }

    private static void likely() {
        SmellInTheHouse x = threeAlone();
        DUE.is("the first", x.likely(0, 1), 0);
        DUE.is("the second", x.likely(0, 2), 1);
        DUE.is("the third", x.likely(0, 0), 2);
        DUE.is("of two the least", x.likely(0, 3), 0);
        x.set(2, 50);
        DUE.is("all alike", x.likely(0, 0), 0);
        x.set(2, 0);
        DUE.is("all 0", x.likely(0, 3), -9);
        DUE.is("one for sure", x.likely(0, 2), 1);
        x = Due.house("s10099;e0910;");
        x.row(0);
        x.set(2, 1);
        DUE.is("hardly, but the likeliest", x.likely(0, 0), 0);
        x = Due.house("e0910;");
        DUE.is("none", x.likely(0, 0), -9);
        DUE.is("nobody", x.likely(1, -1), -1);
        DUE.is("nobody below", x.likely(-1, 0), -1);
        DUE.is("below", x.likely(0, -1), -4);
        DUE.is("above", x.likely(0, 256), -6);
        DUE.is("255", x.likely(0, 255), -9);
    }

    private static void refusals() {
        SmellInTheHouse x = threeAlone();
        long base = 4000000000000000000L;
        DUE.is("says, nobody", x.says(1), -1);
        DUE.is("says, nobody below", x.says(-1), -1);
        DUE.is("odds, no source", x.odds(3, 0, -1, 2), base + 1);
        DUE.is("odds, no source below", x.odds(-1, 0, 0, 0), base + 1);
        DUE.is("odds, no nose", x.odds(0, 1, -1, 2), base + 1);
        DUE.is("odds, no nose below", x.odds(0, -1, 0, 0), base + 1);
        DUE.is("odds, part", x.odds(0, 0, -1, 2), base + 2);
        DUE.is("odds, part below", x.odds(0, 0, 0, -1), base + 2);
        DUE.is("odds, says below", x.odds(0, 0, -1, 0), base + 4);
        DUE.is("odds, says above", x.odds(0, 0, 256, 0), base + 6);
        DUE.is("any, nobody", x.any(1, -1, 2), base + 1);
        DUE.is("any, nobody below", x.any(-1, 0, 0), base + 1);
        DUE.is("any, part", x.any(0, -1, 2), base + 2);
        DUE.is("any, part below", x.any(0, 0, -1), base + 2);
        DUE.is("any, says below", x.any(0, -1, 0), base + 4);
        DUE.is("any, says above", x.any(0, 256, 0), base + 6);
        DUE.is("refusals -1", x.count(11), 8);
        DUE.is("refusals -2", x.count(12), 4);
        DUE.is("refusals -4", x.count(14), 2);
        DUE.is("refusals -6", x.count(16), 2);
    }
}
