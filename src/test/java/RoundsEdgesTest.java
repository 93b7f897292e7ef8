/** Each sentence of "In mind, from now" on rounds and on what they tell, at its edges. */
public final class RoundsEdgesTest {
    private static final Due DUE = new Due("RoundsEdgesTest");

    public static void main(String[] args) {
        rows();
        roomsNotThere();
        tiredAsItIs();
        minutesBetween();
        outsideMends();
        nobodyAhead();
        bits();
        aloneWithoutTheRest();
        aloneTenMinutes();
        aloneFromMinute0();
        aloneElseTheSame();
        apart();
        bestRoundNumbers();
        bestRoundRooms();
        bestRoundFirst();
        bestRoundDigits();
        oddsAtFirst();
        oddsBySlip();
        oddsNotLookedAt();
        oddsOnTheirOwn();
        leastTerms();
        any();
        likely();
        DUE.end();
    }

    private static SmellInTheHouse round(String house, int... places) {
        SmellInTheHouse x = Due.house(house);
        Due.places(x, places);
        return x;
    }

    private static void rows() {
        DUE.sentence("A ROUND (a ROW of places: ROOMS, or 9: outside; 8 at most;");
        SmellInTheHouse x = new SmellInTheHouse();
        DUE.is("room -1", x.row(-1), -1);
        DUE.is("room 0", x.row(0), 1);
        DUE.is("room 1", x.row(1), 2);
        DUE.is("room 2 of 2", x.row(2), -1);
        DUE.is("8", x.row(8), -1);
        DUE.is("9", x.row(9), 3);
        DUE.is("10", x.row(10), -1);
        Due.tell(x, "n5;");
        DUE.is("room 4 of 5", x.row(4), 4);
        DUE.is("room 5 of 5", x.row(5), -1);
        for (int i = 5; i <= 8; i++) {
            DUE.is("place " + i, x.row(i - 5), i);
        }
        DUE.is("a ninth", x.row(0), -6);
        DUE.is("a ninth, outside", x.row(9), -6);
        DUE.is("a ninth that is no room", x.row(5), -1);
        DUE.is("8 still", x.count(6), 8);
        DUE.is("8 had it", x.clear(), 8);
        DUE.is("none had it", x.clear(), 0);
        DUE.is("a first", x.row(9), 1);
    }

    private static void roomsNotThere() {
        DUE.sentence("a ROOM of it that is not there any more has STRENGTH 0, and is a place all the same):");
        SmellInTheHouse x = Due.house("o00;o10;s10099;e3101;");
        x.fill(0, 99);
        x.image();
        Due.tell(x, "n5;");
        x.fill(4, 9999);
        Due.places(x, 4, 0, 4);
        DUE.is("while it is there", x.says(0), 7);
        x.restore();
        DUE.is("there are 2", x.count(0), 2);
        DUE.is("it is in the row", x.count(6), 3);
        DUE.is("it has nothing", x.says(0), 2);
        DUE.is("alone too", x.alone(0, 0), 2);
        // 90 for each place that is told right, 10 for each that is told wrong; none says 0.
        DUE.is("all told right", x.any(0, 2, 0), 9);
        DUE.is("all told right, below", x.any(0, 2, 1), 10);
        x.set(2, 0);
        DUE.is("the first place cannot be told so", x.odds(0, 0, 3, 0), 0);
        DUE.is("the third place cannot be told so", x.odds(0, 0, 6, 0), 0);
        DUE.is("all can be told so", x.odds(0, 0, 2, 0), 1);
        DUE.is("no more of such places", x.row(4), -1);
    }

    private static void tiredAsItIs() {
        DUE.sentence("a NOSE, TIRED as it is, SNIFFS in each, one behind the other,");
        SmellInTheHouse x = round("o00;e0210;", 0, 0, 0, 0, 0);
        x.fill(0, 10);
        DUE.is("untired: 1, 2, 1, 2, 1", x.says(0), 1 + 2 + 8);
        x.sniff(0, 0);
        DUE.is("tired 1: 2, 1, 2, 1, 2", x.says(0), 1 + 4 + 16);
        x.sniff(0, 0);
        DUE.is("tired 2: 1, 2, 1, 2, 1", x.says(0), 2 + 8);
        DUE.is("tired still", x.nose(0, 3), 2);
        x.outside(0);
        DUE.is("mended", x.says(0), 1 + 2 + 8);
        DUE.is("on an empty round", round("e0210;").says(0), 0);
    }

    private static void minutesBetween() {
        DUE.sentence("ahead of each next one a MINUTE goes by");
        for (int line = 1; line <= 9; line++) {
            SmellInTheHouse x = round("o00;s1001;e09" + line + ";", 0, 0, 0, 0, 0, 0, 0, 0);
            // 0, 1, .. 7.
            DUE.is("line " + line, x.says(0), line <= 7 ? 255 ^ (1 << line) - 1 : 0);
        }
        SmellInTheHouse x = round("o00;s1001;e093;", 9, 1, 9, 0, 9);
        DUE.is("ahead of the fourth three, outside or elsewhere", x.says(0), 8);
        x = round("o00;s1001;e094;", 9, 1, 9, 0, 0);
        DUE.is("ahead of the fifth four", x.says(0), 16);
    }

    private static void outsideMends() {
        DUE.sentence("(in mind; outside it mends, and what was said ahead stays;");
        SmellInTheHouse x = round("o00;e0310;", 0, 0, 0, 9, 0, 0, 0, 0);
        x.fill(0, 10);
        DUE.is("three, and three more", x.says(0), 1 + 2 + 4 + 16 + 32 + 64);
        DUE.is("in mind", x.nose(0, 3), 0);
        x.clear();
        Due.places(x, 0, 0, 0, 0, 9, 0, 0, 0);
        DUE.is("2 less 3 is 0", x.says(0), 1 + 2 + 4 + 32 + 64 + 128);
        x = round("o00;e0910;", 0, 0);
        x.fill(0, 10);
        for (int i = 0; i < 9; i++) {
            x.sniff(0, 0);
        }
        DUE.is("tired 9", x.says(0), 2);
        x.clear();
        Due.places(x, 9, 0, 0, 0, 0, 0);
        DUE.is("9 less 3 is 6: three more", x.says(0), 2 + 4 + 8 + 32);
        SmellInTheHouse sayer = round("e4910;", 0, 9, 9, 1);
        sayer.fill(0, 10);
        DUE.is("what was said ahead stays", sayer.says(0), 1 + 8);
        DUE.is("nothing was said", sayer.sniff(0, 1), 0);
    }

    private static void nobodyAhead() {
        DUE.sentence("nobody sniffed ahead of the first one, so a SAYER has only itself ahead):");
        SmellInTheHouse x = round("e4910;e0910;", 1, 1, 0, 1);
        x.fill(0, 20);
        DUE.is("itself ahead", x.says(0), 4 + 8);
        DUE.is("another says so", x.sniff(1, 0), 1);
        DUE.is("not on the round", x.says(0), 4 + 8);
        DUE.is("it is said still", x.sniff(0, 1), 1);
        DUE.is("not on the round, though it said so itself", x.says(0), 4 + 8);
        DUE.is("no sayer", x.says(1), 4);
        DUE.is("the round is not what was said", x.sniff(1, 1) + x.sniff(0, 1), 0);
    }

    private static void bits() {
        DUE.sentence("SAYS: bits by places (0 outside).");
        SmellInTheHouse x = Due.house("e0110;");
        x.fill(0, 99);
        for (int place = 0; place < 8; place++) {
            x.clear();
            for (int i = 0; i < 8; i++) {
                x.row(i == place ? 0 : 1);
            }
            DUE.is("place " + place, x.says(0), 1 << place);
        }
        x.clear();
        Due.places(x, 9, 9, 9, 9, 9, 9, 9, 9);
        DUE.is("outside", x.says(0), 0);
        x = round("o00;e3110;e4110;", 0, 0, 0, 0, 0, 0, 0, 0);
        x.fill(0, 5);
        DUE.is("all", x.says(0), 255);
        DUE.is("none", x.says(1), 0);
    }

    private static void aloneWithoutTheRest() {
        DUE.sentence("ONE ALONE: the same, if all STRENGTHS were 0, NOSE untired, MINUTE 0, only that SOURCE there,");
        SmellInTheHouse x = round("n3;s10099;s11099;s72099;e0910;", 0, 1, 2);
        DUE.is("the first", x.alone(0, 0), 1);
        DUE.is("the second", x.alone(0, 1), 2);
        DUE.is("the third", x.alone(0, 2), 0);
        for (int room = 0; room < 3; room++) {
            x.fill(room, 9999);
        }
        for (int i = 0; i < 12; i++) {
            x.sniff(0, 0);
        }
        DUE.is("tired", x.nose(0, 3), 8);
        x.go(99);
        DUE.is("the first, later", x.alone(0, 0), 1);
        DUE.is("the second, later", x.alone(0, 1), 2);
        DUE.is("the third, later", x.alone(0, 2), 0);
        DUE.is("tired still", x.nose(0, 3), 8);
        DUE.is("minute still", x.count(3), 99);
        Due.tell(x, "s12099;s12099;");
        DUE.is("the first, with others", x.alone(0, 0), 1);
        DUE.is("the last", x.alone(0, 4), 4);
        x.clear();
        DUE.is("on an empty round", x.alone(0, 0), 0);
    }

    private static void aloneTenMinutes() {
        DUE.sentence("10 MINUTES gone by ahead of the ROUND (from MINUTE 0).");
        // 40, 44, 48, .. 68.
        int[] lines = {36, 40, 41, 44, 45, 68, 69};
        int[] due = {255, 255, 254, 254, 252, 128, 0};
        for (int i = 0; i < lines.length; i++) {
            SmellInTheHouse x = round("o00;s1004;e09" + lines[i] + ";", 0, 0, 0, 0, 0, 0, 0, 0);
            DUE.is("from " + lines[i] + " on", x.alone(0, 0), due[i]);
        }
    }

    private static void aloneFromMinute0() {
        DUE.sentence("(from MINUTE 0)");
        // What comes in minute 0 .. 9 is there at the first place, in minute 10 at the second, .. 16 at the eighth.
        for (int figure = 0; figure <= 9; figure++) {
            String house = "o00;s20" + figure + "50;e3960;e3998;";
            SmellInTheHouse x = round(house, 0, 0, 0, 0, 0, 0, 0, 0);
            DUE.is("figure " + figure, x.alone(0, 0), 255);
            SmellInTheHouse y = round("o00;s20" + figure + "50;e2930;", 0, 0, 0, 0, 0, 0, 0, 0);
            DUE.is("figure " + figure + ", twice", y.alone(0, 0), figure <= 6 ? 254 - ((1 << figure + 1) - 2) : 0);
            y.go(7);
            DUE.is("figure " + figure + ", twice, later", y.alone(0, 0), figure <= 6 ? 254 - ((1 << figure + 1) - 2) : 0);
        }
        // 9 tenths go out: 98, 109 and 100 in minutes 9, 10 and 11 leave 10, 11 and 10.
        SmellInTheHouse mouse = round("o09;s40999;e0910;e0911;e0912;", 0, 0, 0);
        DUE.is("a mouse, from 10 on", mouse.alone(0, 0), 7);
        DUE.is("a mouse, from 11 on", mouse.alone(1, 0), 2);
        DUE.is("a mouse, from 12 on", mouse.alone(2, 0), 0);
        mouse = round("o00;s40099;e0999;", 0, 0, 0);
        DUE.is("a mouse that came and went", mouse.alone(0, 0), 7);
    }

    private static void aloneElseTheSame() {
        DUE.sentence("ONE ALONE: the same,");
        SmellInTheHouse x = round("o00;o10;f014;s30250;s10050;s51050;e0220;e4220;", 0, 0, 0, 9, 1);
        DUE.is("the wind", x.alone(0, 0), 0);
        x.set(0, 2);
        DUE.is("the wind is 2", x.alone(0, 0), 1 + 2 + 16);
        DUE.is("it tires and mends", x.alone(0, 1), 1 + 2 + 16);
        DUE.is("carried", x.alone(0, 2), 1 + 2 + 16);
        x.door(0, 1, true);
        DUE.is("a shut door", x.alone(0, 1), 1 + 2);
        DUE.is("a sayer has itself ahead", x.alone(1, 1), 1 + 2 + 4 + 16);
        x.fill(1, 99);
        DUE.is("that says so now", x.sniff(1, 1), 1);
        x.clear();
        Due.places(x, 1, 0, 1);
        DUE.is("nobody ahead of its first one", x.alone(1, 1), 2 + 4);
        Due.tell(x, "o09;");
        DUE.is("what goes out", x.alone(0, 1), 0);
    }

    private static void apart() {
        DUE.sentence("APART: how many pairs of SOURCES have unlike SAYS of ONE ALONE.");
        SmellInTheHouse x = round("n5;e0910;", 0, 1, 2, 3);
        int[] pairs = {0, 0, 1, 3, 6, 10};
        DUE.is("no sources", x.apart(0), 0);
        for (int many = 1; many <= 5; many++) {
            Due.tell(x, "s1" + (5 - many) + "099;");
            DUE.is(many + " sources, each otherwise", x.apart(0), pairs[many]);
        }
        x.clear();
        DUE.is("an empty round", x.apart(0), 0);
        x.row(9);
        DUE.is("outside", x.apart(0), 0);
        x.row(4);
        DUE.is("one unlike four", x.apart(0), 4);
        x = round("s10099;s10098;s10097;s11099;s11098;e0910;", 0);
        DUE.is("three unlike two", x.apart(0), 6);
        x = round("s0009;s7109;e0910;", 0, 1);
        DUE.is("two that give nothing", x.apart(0), 0);
    }

    private static void bestRoundNumbers() {
        DUE.sentence("BEST ROUND of k (1 .. 3) ROOMS");
        SmellInTheHouse x = Due.house("n5;s14099;s13099;s12099;e0910;");
        DUE.is("0", x.bestRound(0, 0, 0), -4);
        DUE.is("-1", x.bestRound(0, -1, 1), -4);
        // Each alone tells 2 pairs; two of them tell all 3.
        DUE.is("1", x.bestRound(0, 1, 0), 2);
        DUE.is("1, pairs", x.bestRound(0, 1, 1), 2);
        DUE.is("2", x.bestRound(0, 2, 0), 32);
        DUE.is("2, pairs", x.bestRound(0, 2, 1), 3);
        // 0 first, then 2, then 3.
        DUE.is("3", x.bestRound(0, 3, 0), 320);
        DUE.is("3, pairs", x.bestRound(0, 3, 1), 3);
        DUE.is("4", x.bestRound(0, 4, 0), -6);
        DUE.is("none is in the row", x.count(6), 0);
    }

    private static void bestRoundRooms() {
        DUE.sentence("(all ROOMS, also one twice):");
        // Minute 9 is at the first place, minute 10 at the second, minute 11 at the third; of 99 a tenth stays.
        SmellInTheHouse x = Due.house("o19;s21999;s21099;s21599;e0909;");
        DUE.is("one twice", x.bestRound(0, 2, 0), 11);
        DUE.is("one twice, pairs", x.bestRound(0, 2, 1), 3);
        Due.tell(x, "s21199;");
        DUE.is("one thrice", x.bestRound(0, 3, 0), 111);
        DUE.is("one thrice, pairs", x.bestRound(0, 3, 1), 6);
        x = Due.house("o09;o19;s21999;s20099;s7009;e0909;");
        DUE.is("the greater one first", x.bestRound(0, 2, 0), 1);
        DUE.is("the greater one first, pairs", x.bestRound(0, 2, 1), 3);
        x = Due.house("n5;s14099;s70099;e0910;");
        DUE.is("the last room", x.bestRound(0, 1, 0), 4);
        DUE.is("the last room, last", x.bestRound(0, 3, 0), 400);
        x.row(0);
        DUE.is("whatever the row is", x.bestRound(0, 1, 0), 4);
    }

    private static void bestRoundFirst() {
        DUE.sentence("the first by numbers (from the first place on) with most APART:");
        SmellInTheHouse x = Due.house("n5;e0910;");
        for (int k = 1; k <= 3; k++) {
            DUE.is("no sources, " + k, x.bestRound(0, k, 0), 0);
            DUE.is("no sources, pairs, " + k, x.bestRound(0, k, 1), 0);
        }
        Due.tell(x, "s10099;s14099;s7009;");
        // 0, 4 is ahead of 4, 0: the first place goes ahead.
        DUE.is("0 and 4", x.bestRound(0, 2, 0), 40);
        DUE.is("0 and 4, pairs", x.bestRound(0, 2, 1), 3);
        // 0, 0, 4 is ahead of 0, 4, 0 and of 0, 1, 4.
        DUE.is("0 and 0 and 4", x.bestRound(0, 3, 0), 400);
        x = Due.house("n5;s13099;s12099;s7009;e0910;");
        DUE.is("2 and 3", x.bestRound(0, 2, 0), 32);
        DUE.is("of 2 and 3 the least", x.bestRound(0, 1, 0), 2);
        DUE.is("of 2 and 3, pairs", x.bestRound(0, 1, 1), 2);
        DUE.is("0 and 2 and 3", x.bestRound(0, 3, 0), 320);
    }

    private static void bestRoundDigits() {
        DUE.sentence("told as digits, the first place's the lowest.");
        // Five by rooms: 1, 2, 3 tell those three and what is left.
        SmellInTheHouse x = Due.house("n5;s11099;s12099;s13099;s7009;e0910;");
        DUE.is("three places", x.bestRound(0, 3, 0), 321);
        DUE.is("three places, pairs", x.bestRound(0, 3, 1), 6);
        DUE.is("two places", x.bestRound(0, 2, 0), 21);
        DUE.is("two places, pairs", x.bestRound(0, 2, 1), 5);
        DUE.is("one place", x.bestRound(0, 1, 0), 1);
        Due.places(x, 1, 2, 3);
        DUE.is("as apart tells of it", x.apart(0), 6);
    }

    private static void odds(String what, SmellInTheHouse x, int source, int told, long above, long below) {
        DUE.is(what + " " + source + " told " + told + ", above", x.odds(source, 0, told, 0), above);
        DUE.is(what + " " + source + " told " + told + ", below", x.odds(source, 0, told, 1), below);
    }

    private static void any(String what, SmellInTheHouse x, int told, long above, long below) {
        DUE.is(what + ", any, told " + told + ", above", x.any(0, told, 0), above);
        DUE.is(what + ", any, told " + told + ", below", x.any(0, told, 1), below);
    }

    private static void oddsAtFirst() {
        DUE.sentence("ODDS of a SOURCE by told SAYS (bits) of a NOSE on the ROUND: each SOURCE alone is as likely at first;");
        SmellInTheHouse x = Due.house("e0910;");
        for (int many = 1; many <= 5; many++) {
            Due.tell(x, "s10099;");
            for (int source = 0; source < many; source++) {
                odds("an empty round, " + many, x, source, 255, 1, many);
            }
        }
        x.row(0);
        odds("all say so", x, 4, 1, 1, 5);
        odds("all say so", x, 4, 0, 1, 5);
        x = round("s10099;s11099;s11098;s7009;s0109;e0910;", 0);
        // 9, 1, 1, 1, 1; 1, 9, 9, 9, 9.
        odds("one says so", x, 0, 1, 9, 13);
        odds("one says so", x, 4, 1, 1, 13);
        odds("one says so", x, 0, 0, 1, 37);
        odds("one says so", x, 4, 0, 9, 37);
    }

    private static void oddsBySlip() {
        DUE.sentence("is told wrong by SLIP hundredths");
        int[] slips = {0, 1, 10, 49, 50};
        long[] right = {1, 99, 9, 51, 1};
        long[] below = {1, 100, 10, 100, 2};
        long[] wrong = {0, 1, 1, 49, 1};
        for (int i = 0; i < slips.length; i++) {
            SmellInTheHouse x = round("s10099;s11099;e0910;", 0);
            x.set(2, slips[i]);
            odds("slip " + slips[i], x, 0, 1, right[i], below[i]);
            odds("slip " + slips[i], x, 1, 0, right[i], below[i]);
            odds("slip " + slips[i], x, 0, 0, wrong[i], wrong[i] == 0 ? 1 : below[i]);
            odds("slip " + slips[i], x, 1, 1, wrong[i], wrong[i] == 0 ? 1 : below[i]);
        }
    }

    private static void oddsNotLookedAt() {
        DUE.sentence("each place of the ROUND (not outside; other told bits are not looked at)");
        SmellInTheHouse x = round("s10099;s11099;e0910;", 9, 0, 9);
        for (int told = 0; told <= 7; told++) {
            boolean so = (told & 2) != 0;
            odds("outside ahead and behind", x, 0, told, so ? 9 : 1, 10);
        }
        odds("bits behind the round", x, 0, 255, 9, 10);
        odds("bits behind the round", x, 0, 253, 1, 10);
        odds("bits behind the round", x, 0, 248, 1, 10);
        x.clear();
        Due.places(x, 9, 9, 9, 9, 9, 9, 9, 9);
        odds("outside alone", x, 0, 255, 1, 2);
        x.clear();
        Due.places(x, 0, 9, 9, 9, 9, 9, 9, 1);
        // 1 and 128.
        odds("the first and the eighth place", x, 0, 1, 81, 82);
        odds("the first and the eighth place", x, 0, 128, 1, 82);
        odds("the first and the eighth place", x, 0, 129, 1, 2);
    }

    private static void oddsOnTheirOwn() {
        DUE.sentence("is told wrong by SLIP hundredths, on its own:");
        SmellInTheHouse x = round("s10099;s11099;e0910;", 0, 0, 0, 0, 0, 0, 0, 0);
        odds("all right", x, 0, 255, 43046721, 43046722);
        odds("seven right", x, 0, 254, 531441, 531442);
        odds("four right", x, 0, 15, 1, 2);
        odds("all wrong", x, 0, 0, 1, 43046722);
        x.set(2, 1);
        long ninetyNine = 1;
        for (int i = 0; i < 8; i++) {
            ninetyNine *= 99;
        }
        odds("99 to the eighth", x, 0, 255, ninetyNine, ninetyNine + 1);
        odds("99 to the eighth", x, 1, 255, 1, ninetyNine + 1);
        any("99 to the eighth", x, 255, ninetyNine + 1, ninetyNine + 2);
        x.set(2, 50);
        odds("50 to the eighth", x, 0, 255, 1, 2);
    }

    private static void leastTerms() {
        DUE.sentence("a fraction in least terms (0 by 1, if all are 0).");
        SmellInTheHouse x = round("s10099;s11099;s7009;e0910;", 0, 1);
        // They tell 1, 2, 0. Told 3: 900, 900, 100; told 1: 8100, 100, 900.
        odds("ninths", x, 0, 3, 9, 19);
        odds("one of nineteen", x, 2, 3, 1, 19);
        odds("of 91", x, 0, 1, 81, 91);
        odds("of 91", x, 1, 1, 1, 91);
        odds("of 91", x, 2, 1, 9, 91);
        x.set(2, 0);
        odds("one for sure", x, 0, 1, 1, 1);
        odds("one not at all", x, 1, 1, 0, 1);
        odds("all are 0", x, 0, 3, 0, 1);
        odds("all are 0", x, 2, 3, 0, 1);
        any("all are 0", x, 3, 0, 1);
        any("for sure", x, 1, 1, 1);
        x.set(2, 20);
        // Told 0: 1600, 1600, 6400.
        odds("thirds and sixths", x, 0, 0, 1, 6);
        odds("thirds and sixths", x, 2, 0, 2, 3);
    }

    private static void any() {
        DUE.sentence("ANY: how likely there is any, if none at all (then SAYS of ONE ALONE are 0)"
                + " is as likely at first as each of the SOURCES.");
        SmellInTheHouse x = Due.house("e0910;");
        any("no sources", x, 0, 0, 1);
        any("no sources", x, 255, 0, 1);
        for (int many = 1; many <= 5; many++) {
            Due.tell(x, "s10099;");
            any(many + " sources, an empty round", x, 255, many, many + 1);
        }
        x.row(9);
        any("outside", x, 1, 5, 6);
        x = round("s10099;e0910;", 0);
        any("told", x, 1, 9, 10);
        any("not told", x, 0, 1, 10);
        x.set(2, 0);
        any("told for sure", x, 1, 1, 1);
        any("not told, for sure", x, 0, 0, 1);
        x.row(1);
        any("told what cannot be", x, 2, 0, 1);
        x.set(2, 50);
        any("told by a half", x, 2, 1, 2);
        x = round("s7009;s10099;e0910;", 0);
        // 10, 90 and none 10.
        any("a thought tells as none", x, 1, 10, 11);
        any("a thought tells as none", x, 0, 10, 19);
        x = round("e0910;", 0);
        any("no sources, a place", x, 0, 0, 1);
        any("no sources, a place", x, 1, 0, 1);
    }

    private static void likely() {
        DUE.sentence("LIKELY: the SOURCE with the greatest ODDS, of several the least; -9 none (all 0, too).");
        SmellInTheHouse x = Due.house("n3;e0910;");
        DUE.is("none", x.likely(0, 0), -9);
        Due.places(x, 0, 1, 2);
        DUE.is("none, on a round", x.likely(0, 7), -9);
        Due.tell(x, "s12099;s11099;s10099;s7009;s10099;");
        DUE.is("told 1", x.likely(0, 1), 2);
        DUE.is("told 2", x.likely(0, 2), 1);
        DUE.is("told 4", x.likely(0, 4), 0);
        DUE.is("told 0", x.likely(0, 0), 3);
        DUE.is("told 3: of three the least", x.likely(0, 3), 1);
        DUE.is("told 7: of four the least", x.likely(0, 7), 0);
        DUE.is("told 249: as 1", x.likely(0, 249), 2);
        x.set(2, 50);
        DUE.is("all alike", x.likely(0, 1), 0);
        x.set(2, 0);
        DUE.is("one for sure", x.likely(0, 4), 0);
        DUE.is("one for sure, none else", x.likely(0, 0), 3);
        DUE.is("all 0", x.likely(0, 3), -9);
        x.clear();
        DUE.is("an empty round", x.likely(0, 255), 0);
    }
}
