/** Each sentence of the Terms on houses told in letters and their faults, at its edges. */
public final class LettersEdgesTest {
    private static final Due DUE = new Due("LettersEdgesTest");

    public static void main(String[] args) {
        letters();
        rooms();
        flows();
        outs();
        sources();
        noses();
        doors();
        oneAtLeast();
        formPlaces();
        formEnds();
        formLetters();
        sense();
        senseBehindAllAhead();
        formAheadOfSense();
        allOfItComes();
        nothingComes();
        DUE.end();
    }

    private static void told(String text, int due) {
        SmellInTheHouse x = new SmellInTheHouse();
        DUE.is("house \"" + text + "\"", Due.tell(x, text), due);
        DUE.is("letters behind \"" + text + "\"", x.count(5), 0);
    }

    private static void letters() {
        DUE.sentence("A HOUSE is told in letters, one by one (72 at most): STATEMENTS, each with \";\" behind:");
        SmellInTheHouse x = new SmellInTheHouse();
        for (int i = 1; i <= 72; i++) {
            DUE.is("letter " + i, x.feed("s00000;o01;".charAt((i - 1) % 11)), i);
        }
        DUE.is("letter 73", x.feed(';'), -6);
        DUE.is("72 letters still", x.count(5), 72);
        // Both six times, and a third one without its ";".
        DUE.is("the last one lacks its end", x.house(), -1072);
        DUE.is("72 letters", Due.tell(x, "n2;".repeat(24)), 24);
        DUE.is("71 letters", Due.tell(x, "n2;".repeat(22) + "f010;"), 23);
        DUE.is("3 letters", Due.tell(x, "n2;"), 1);
        told("n2", -1002);
        told("n2,", -1002);
        told("n2;n2", -1005);
        told(";n2;", -1000);
        told("n2;;", -1003);
        told("n2; n2;", -1003);
    }

    private static void rooms() {
        DUE.sentence("\"n\" ROOMS (a digit; not fewer than there are);");
        for (int there = 2; there <= 5; there++) {
            for (int told = 0; told <= 9; told++) {
                SmellInTheHouse x = Due.house("n" + there + ";");
                boolean may = told >= there && told <= 5;
                DUE.is(told + " when there are " + there, Due.tell(x, "n" + told + ";"), may ? 1 : -2000);
                DUE.is(told + " or the " + there + " there are", x.count(0), may ? told : there);
            }
        }
        told("n;", -1001);
        told("n/;", -1001);
        told("n:;", -1001);
        told("n22;", -1002);
    }

    private static void flows() {
        DUE.sentence("\"f\" FROM, TO, FLOW (a digit each);");
        SmellInTheHouse x = Due.house("n5;");
        DUE.is("from 0 to 4", Due.tell(x, "f044;"), 1);
        DUE.is("from 4 to 0", Due.tell(x, "f403;"), 1);
        DUE.is("there", x.flow(0, 4, 0), 4);
        DUE.is("and back", x.flow(4, 0, 0), 3);
        DUE.is("told anew", Due.tell(x, "f040;"), 1);
        DUE.is("0 then", x.flow(0, 4, 0), 0);
        DUE.is("5", Due.tell(x, "f045;"), -2000);
        DUE.is("from beyond", Due.tell(x, "f501;"), -2000);
        DUE.is("to beyond", Due.tell(x, "f051;"), -2000);
        DUE.is("two alike", Due.tell(x, "f441;"), -2000);
        told("f;", -1001);
        told("f0;", -1002);
        told("f01;", -1003);
        told("f0100;", -1004);
        told("f:10;", -1001);
        told("f0:0;", -1002);
        told("f01:;", -1003);
    }

    private static void outs() {
        DUE.sentence("\"o\" a ROOM, OUT (a digit each);");
        SmellInTheHouse x = Due.house("n5;");
        DUE.is("9 of the last", Due.tell(x, "o49;"), 1);
        DUE.is("0 of the first", Due.tell(x, "o00;"), 1);
        DUE.is("of the last", x.room(4, 1), 9);
        DUE.is("of the first", x.room(0, 1), 0);
        DUE.is("of no room", Due.tell(x, "o50;"), -2000);
        told("o;", -1001);
        told("o0;", -1002);
        told("o000;", -1003);
        told("o:0;", -1001);
        told("o0:;", -1002);
    }

    private static void sources() {
        DUE.sentence("\"s\" KIND, ROOM, FIGURE (a digit each), STRONG (1 or 2 digits): a SOURCE more;");
        SmellInTheHouse x = Due.house("n5;");
        DUE.is("1 digit", Due.tell(x, "s7493;"), 1);
        DUE.is("2 digits", Due.tell(x, "s00099;"), 1);
        DUE.are("the first", new long[] {x.source(0, 0), x.source(0, 1), x.source(0, 3), x.source(0, 2)}, 7, 4, 9, 3);
        DUE.are("the second", new long[] {x.source(1, 0), x.source(1, 1), x.source(1, 3), x.source(1, 2)}, 0, 0, 0, 99);
        DUE.is("kind 8", Due.tell(x, "s8000;"), -2000);
        DUE.is("room 5", Due.tell(x, "s0500;"), -2000);
        DUE.is("two still", x.count(1), 2);
        told("s;", -1001);
        told("s0;", -1002);
        told("s00;", -1003);
        told("s000;", -1004);
        told("s000000;", -1006);
        told("s:000;", -1001);
        told("s0:00;", -1002);
        told("s00:0;", -1003);
        told("s000:;", -1004);
        told("s0000:;", -1005);
    }

    private static void noses() {
        DUE.sentence("\"e\" KIND (a digit), TIRES (a digit), LINE (1 or 2 digits): a NOSE more;");
        SmellInTheHouse x = Due.house("n5;");
        DUE.is("1 digit", Due.tell(x, "e493;"), 1);
        DUE.is("2 digits", Due.tell(x, "e0199;"), 1);
        DUE.are("the first", new long[] {x.nose(0, 0), x.nose(0, 2), x.nose(0, 1)}, 4, 9, 3);
        DUE.are("the second", new long[] {x.nose(1, 0), x.nose(1, 2), x.nose(1, 1)}, 0, 1, 99);
        DUE.is("kind 5", Due.tell(x, "e511;"), -2000);
        DUE.is("tires 0", Due.tell(x, "e001;"), -2000);
        DUE.is("line 0", Due.tell(x, "e010;"), -2000);
        DUE.is("two still", x.count(2), 2);
        told("e;", -1001);
        told("e0;", -1002);
        told("e01;", -1003);
        told("e01111;", -1005);
        told("e:11;", -1001);
        told("e0:1;", -1002);
        told("e01:;", -1003);
        told("e011:;", -1004);
    }

    private static void doors() {
        DUE.sentence("\"x\" two ROOMS: the DOOR is SHUT (or, SHUT then, open).");
        SmellInTheHouse x = Due.house("n5;");
        DUE.is("shut", Due.tell(x, "x04;"), 1);
        DUE.is("it is shut", x.flow(4, 0, 1), 1);
        DUE.is("open", Due.tell(x, "x40;"), 1);
        DUE.is("it is open", x.flow(0, 4, 1), 0);
        DUE.is("thrice", Due.tell(x, "x04;x04;x40;"), 3);
        DUE.is("it is shut then", x.flow(0, 4, 1), 1);
        x.door(0, 4, false);
        DUE.is("shut behind door()", Due.tell(x, "x04;"), 1);
        DUE.is("it is shut again", x.flow(0, 4, 1), 1);
        DUE.is("no room", Due.tell(x, "x05;"), -2000);
        DUE.is("no room first", Due.tell(x, "x50;"), -2000);
        DUE.is("two alike", Due.tell(x, "x44;"), -2000);
        told("x;", -1001);
        told("x0;", -1002);
        told("x010;", -1003);
        told("x:1;", -1001);
        told("x0:;", -1002);
    }

    private static void oneAtLeast() {
        DUE.sentence("At least one STATEMENT.");
        told("", -1000);
        told(";", -1000);
        told("n2;", 1);
        SmellInTheHouse x = Due.house("n2;");
        DUE.is("none the second time", x.house(), -1000);
        DUE.is("nothing is counted", x.count(11) + x.count(12) + x.count(13) + x.count(14) + x.count(16), 0);
    }

    private static void formPlaces() {
        DUE.sentence("FAULT: kind 1 the place (from 0) of the first letter with which no HOUSE can go on");
        told("z", -1000);
        told("zn2;", -1000);
        told("nz2;", -1001);
        told("n2z;", -1002);
        told("n2;z", -1003);
        told("n2;n2;n2;z", -1009);
        told("zzzz", -1000);
        told("n2;".repeat(23) + "n2n", -1071);
        told("n2;".repeat(23) + "n;;", -1070);
        told("n2;".repeat(23) + ";;;", -1069);
    }

    private static void formEnds() {
        DUE.sentence("(the end, if something lacks): -1000 less the place;");
        told("n", -1001);
        told("n2", -1002);
        told("s", -1001);
        told("s0", -1002);
        told("s00", -1003);
        told("s000", -1004);
        told("s0000", -1005);
        told("s00000", -1006);
        told("e01", -1003);
        told("e011", -1004);
        told("e0111", -1005);
        told("n2;n2;n", -1007);
        told("n2;".repeat(23) + "n2", -1071);
        told("n2;".repeat(23) + "f01", -1072);
    }

    private static void formLetters() {
        DUE.sentence("the first letter with which no HOUSE can go on");
        for (int letter = 0; letter <= 255; letter++) {
            boolean starts = "nfosex".indexOf(letter) >= 0;
            boolean digit = letter >= '0' && letter <= '9';
            told("" + (char) letter, starts ? -1001 : -1000);
            told("n" + (char) letter, digit ? -1002 : -1001);
            told("n2" + (char) letter, letter == ';' ? 1 : -1002);
            told("e011" + (char) letter, letter == ';' ? 1 : digit ? -1005 : -1004);
        }
    }

    private static void sense() {
        DUE.sentence("(a number out of range, what is not there, two alike, no room): -2000 less the place.");
        told("n6;", -2000);
        told("f015;", -2000);
        told("f010;f015;", -2005);
        told("s8000;", -2000);
        told("e511;", -2000);
        told("e001;", -2000);
        told("e010;", -2000);
        told("f020;", -2000);
        told("f200;", -2000);
        told("o20;", -2000);
        told("s0200;", -2000);
        told("x02;", -2000);
        told("x20;", -2000);
        told("f000;", -2000);
        told("x11;", -2000);
        told("s0000;".repeat(6), -2030);
        told("e011;".repeat(5), -2020);
        told("n2;".repeat(23) + "n9;", -2069);
    }

    private static void senseBehindAllAhead() {
        DUE.sentence("else kind 2 the place of the first letter of the first STATEMENT that,"
                + " behind all ahead of it in the text, is not as it must be");
        told("n3;o20;", 2);
        told("o20;n3;", -2000);
        told("n3;n2;", -2003);
        told("n3;f020;x12;s1209;", 4);
        told("n3;o20;o30;o40;", -2007);
        told("o30;o20;", -2000);
        SmellInTheHouse x = Due.house("s0000;s0000;e011;e011;");
        DUE.is("behind two sources, four more", Due.tell(x, "s0000;".repeat(4)), -2018);
        DUE.is("behind two sources, three more", Due.tell(x, "s0000;".repeat(3)), 3);
        DUE.is("behind two noses, three more", Due.tell(x, "e011;".repeat(3)), -2010);
        DUE.is("behind two noses, two more", Due.tell(x, "e011;".repeat(2)), 2);
        DUE.is("behind five sources", Due.tell(x, "n2;s0000;"), -2003);
        DUE.is("behind four noses", Due.tell(x, "n2;e011;"), -2003);
    }

    private static void formAheadOfSense() {
        DUE.sentence("else kind 2");
        told("n9;z", -1003);
        told("n9;n", -1004);
        told("f000;f00;", -1008);
        told("n9", -1002);
        told("n9;", -2000);
    }

    private static void allOfItComes() {
        DUE.sentence("Without FAULT all of it comes,");
        SmellInTheHouse x = new SmellInTheHouse();
        DUE.is("all", Due.tell(x, "n3;f024;o29;s1205;e011;x02;"), 6);
        DUE.is("rooms", x.count(0), 3);
        DUE.is("flow", x.flow(0, 2, 0), 4);
        DUE.is("out", x.room(2, 1), 9);
        DUE.is("a source", x.source(0, 2), 5);
        DUE.is("a nose", x.nose(0, 1), 1);
        DUE.is("a shut door", x.flow(2, 0, 1), 1);
        DUE.is("nothing else", x.count(1) + x.count(2) + x.count(7), 3);
    }

    private static void nothingComes() {
        DUE.sentence("with one nothing.");
        String[] faults = {"z", "n1;", "o", ""};
        int[] due = {-1027, -2027, -1028, 6};
        for (int i = 0; i < faults.length; i++) {
            SmellInTheHouse x = new SmellInTheHouse();
            DUE.is("with " + faults[i], Due.tell(x, "n3;f024;o09;s1005;e011;x01;" + faults[i]), due[i]);
            boolean comes = due[i] > 0;
            DUE.is("rooms with " + faults[i], x.count(0), comes ? 3 : 2);
            DUE.is("flow with " + faults[i], x.flow(0, 2, 0), comes ? 4 : -1);
            DUE.is("out with " + faults[i], x.room(0, 1), comes ? 9 : 1);
            DUE.is("sources with " + faults[i], x.count(1), comes ? 1 : 0);
            DUE.is("noses with " + faults[i], x.count(2), comes ? 1 : 0);
            DUE.is("doors with " + faults[i], x.count(7), comes ? 1 : 0);
        }
    }
}
