/** Each sentence of the Terms on noses, at its edges. */
public final class NosesEdgesTest {
    private static final Due DUE = new Due("NosesEdgesTest");

    public static void main(String[] args) {
        asTheyCome();
        kinds();
        numbers();
        lines();
        tires();
        trainedHoweverTired();
        saysSo();
        sayersAhead();
        sayersNobodyAhead();
        tired();
        outside();
        DUE.end();
    }

    private static void asTheyCome() {
        DUE.sentence("NOSES 0 .. 3 as they come");
        SmellInTheHouse x = new SmellInTheHouse();
        DUE.is("none at first", x.nose(0, 0), -1);
        DUE.is("two", Due.tell(x, "e0111;e0112;"), 2);
        DUE.is("no third", x.nose(2, 1), -1);
        DUE.is("two more", Due.tell(x, "e0113;e0114;"), 2);
        for (int nose = 0; nose < 4; nose++) {
            DUE.is("nose " + nose, x.nose(nose, 1), 11 + nose);
        }
        DUE.is("nose -1", x.nose(-1, 1), -1);
        DUE.is("nose 4", x.nose(4, 1), -1);
        DUE.is("a fifth", Due.tell(x, "e0115;"), -2000);
        DUE.is("four still", x.count(2), 4);
        DUE.is("five at once", Due.tell(new SmellInTheHouse(), "e011;".repeat(5)), -2020);
    }

    private static void kinds() {
        DUE.sentence("of KINDS: 0 NOSE; 1 KEEN under NOSE; 2 COLD under NOSE; 3 TRAINED under KEEN;"
                + " 4 SAYER under NOSE:");
        int[] from = {30, 15, 60, 15, 30};
        for (int kind = 0; kind <= 4; kind++) {
            SmellInTheHouse x = Due.house("e" + kind + "130;");
            DUE.is("kind " + kind, x.nose(0, 0), kind);
            DUE.is("from which on kind " + kind + " smells", x.nose(0, 4), from[kind]);
        }
        DUE.is("kind 5", Due.tell(new SmellInTheHouse(), "e5130;"), -2000);
        DUE.is("kind 9", Due.tell(new SmellInTheHouse(), "e9130;"), -2000);
    }

    private static void numbers() {
        DUE.sentence("a LINE (1 .. 99), TIRES (1 .. 9); TIRED (0 at first).");
        SmellInTheHouse x = new SmellInTheHouse();
        DUE.is("the least", Due.tell(x, "e011;"), 1);
        DUE.is("the least in two digits", Due.tell(x, "e0101;"), 1);
        DUE.is("the greatest", Due.tell(x, "e0999;"), 1);
        DUE.are("lines", new long[] {x.nose(0, 1), x.nose(1, 1), x.nose(2, 1)}, 1, 1, 99);
        DUE.are("tires", new long[] {x.nose(0, 2), x.nose(1, 2), x.nose(2, 2)}, 1, 1, 9);
        DUE.are("tired", new long[] {x.nose(0, 3), x.nose(1, 3), x.nose(2, 3)}, 0, 0, 0);
        DUE.is("line 0", Due.tell(x, "e010;"), -2000);
        DUE.is("line 00", Due.tell(x, "e0100;"), -2000);
        DUE.is("line 100", Due.tell(x, "e01100;"), -1005);
        DUE.is("tires 0", Due.tell(x, "e001;"), -2000);
        DUE.is("tires a sign above 9", Due.tell(x, "e0:1;"), -1002);
        DUE.is("three still", x.count(2), 3);
    }

    private static void lines() {
        DUE.sentence("A NOSE SNIFFS in a ROOM: it SMELLS, if STRENGTH there is its LINE or more"
                + " (KEEN: half of it, up, or more; COLD: twice it; TRAINED, SAYER: as the ones above)");
        lines(0, 1, 2, 98, 99);
        lines(1, 1, 1, 49, 50);
        lines(2, 2, 4, 196, 198);
        lines(3, 1, 1, 49, 50);
        lines(4, 1, 2, 98, 99);
    }

    /** From which strengths on a kind smells with a line of 1, 2, 98, 99. */
    private static void lines(int kind, int... from) {
        int[] line = {1, 2, 98, 99};
        for (int i = 0; i < 4; i++) {
            SmellInTheHouse x = Due.house("e" + kind + "9" + line[i] + ";");
            String what = "kind " + kind + ", line " + line[i];
            DUE.is(what, x.nose(0, 4), from[i]);
            x.fill(1, from[i] - 1);
            DUE.is(what + ", less", x.sniff(0, 1), 0);
            x.fill(1, from[i]);
            DUE.is(what + ", as much", x.sniff(0, 1), 1);
            DUE.is(what + ", in the other room", x.nose(0, 3) + x.room(0, 0), 1);
            x.fill(1, 9999);
            DUE.is(what + ", the most", x.sniff(0, 1), 1);
        }
    }

    private static void tires() {
        DUE.sentence("and TIRED is below TIRES");
        for (int kind = 0; kind <= 2; kind++) {
            for (int tires = 1; tires <= 9; tires += 8) {
                SmellInTheHouse x = Due.house("e" + kind + tires + "10;");
                x.fill(0, 9999);
                for (int i = 1; i <= tires; i++) {
                    DUE.is("kind " + kind + ", tires " + tires + ", sniff " + i, x.sniff(0, 0), 1);
                }
                DUE.is("kind " + kind + ", tired as it tires", x.nose(0, 3), tires);
                DUE.is("kind " + kind + ", tires " + tires + ", one more", x.sniff(0, 0), 0);
                DUE.is("kind " + kind + ", tires " + tires + ", one less tired", x.sniff(0, 0), 1);
            }
        }
        // A sayer says so by what it said ahead, but it smells no more: it is less tired.
        SmellInTheHouse x = Due.house("e4110;");
        x.fill(0, 10);
        x.sniff(0, 0);
        DUE.is("a sayer, tired", x.nose(0, 3), 1);
        x.sniff(0, 0);
        DUE.is("a sayer, less tired", x.nose(0, 3), 0);
    }

    private static void trainedHoweverTired() {
        DUE.sentence("(TRAINED: in any case, however TIRED).");
        SmellInTheHouse x = Due.house("e3110;e3910;");
        x.fill(0, 5);
        for (int i = 1; i <= 100; i++) {
            DUE.is("tires 1, sniff " + i, x.sniff(0, 0), 1);
            DUE.is("tires 9, sniff " + i, x.sniff(1, 0), 1);
        }
        DUE.is("tires 1, tired", x.nose(0, 3), 100);
        DUE.is("tires 9, tired", x.nose(1, 3), 100);
        x.fill(0, 4);
        DUE.is("below its line", x.sniff(0, 0), 0);
        DUE.is("less tired", x.nose(0, 3), 99);
        x.fill(0, 5);
        x.row(0);
        x.row(0);
        DUE.is("in mind too", x.says(0), 3);
    }

    private static void saysSo() {
        DUE.sentence("It SAYS so (1, 0);");
        for (int kind = 0; kind <= 4; kind++) {
            SmellInTheHouse x = Due.house("e" + kind + "910;");
            DUE.is("kind " + kind + " where there is none", x.sniff(0, 0), 0);
            x.fill(0, 20);
            DUE.is("kind " + kind + " where there is some", x.sniff(0, 0), 1);
            int again = x.sniff(0, 1);
            DUE.is("kind " + kind + " where there is none, again", again, kind == 4 ? 1 : 0);
        }
    }

    private static void sayersAhead() {
        DUE.sentence("a SAYER says so also if the one who sniffed ahead of it said so"
                + " (whoever that was, itself too, wherever and whenever; none: no).");
        for (int kind = 0; kind <= 4; kind++) {
            SmellInTheHouse x = Due.house("e4110;e" + kind + "910;");
            x.fill(0, 20);
            x.sniff(1, 0);
            x.go(99);
            x.outside(0);
            x.fill(0, 0);
            DUE.is("kind " + kind + " ahead, elsewhere, long ago", x.sniff(0, 1), 1);
            DUE.is("it smelled nothing", x.nose(0, 3), 0);
            DUE.is("itself ahead", x.sniff(0, 0), 1);
            int other = x.sniff(1, 0);
            DUE.is("kind " + kind + " behind it", other, kind == 4 ? 1 : 0);
            DUE.is("what the last one said", x.sniff(0, 0), other);
        }
        SmellInTheHouse x = Due.house("e4110;e4110;");
        x.fill(0, 10);
        x.sniff(0, 0);
        DUE.is("another sayer", x.sniff(1, 1), 1);
        DUE.is("the one behind that", x.sniff(0, 1), 1);
        DUE.is("the other again", x.sniff(1, 1), 1);
    }

    private static void sayersNobodyAhead() {
        DUE.sentence("none: no");
        SmellInTheHouse x = Due.house("e4110;");
        DUE.is("nobody ahead", x.sniff(0, 0), 0);
        DUE.is("itself ahead, and it said no", x.sniff(0, 0), 0);
        x.fill(1, 10);
        DUE.is("a sniff that was refused was none", x.sniff(1, 1), -1);
        DUE.is("it said no still", x.sniff(0, 0), 0);
        x.image();
        DUE.is("by itself", x.sniff(0, 1), 1);
        x.restore();
        DUE.is("restored to nobody who said so", x.sniff(0, 0), 0);
    }

    private static void tired() {
        DUE.sentence("If it SMELLS TIRED is 1 more, else 1 less (0 at least).");
        SmellInTheHouse x = Due.house("e0210;");
        x.fill(0, 10);
        DUE.is("none at 0", x.sniff(0, 1), 0);
        DUE.is("0 at least", x.nose(0, 3), 0);
        x.sniff(0, 0);
        DUE.is("1 more", x.nose(0, 3), 1);
        x.sniff(0, 0);
        DUE.is("2", x.nose(0, 3), 2);
        x.sniff(0, 0);
        DUE.is("too tired: 1 less", x.nose(0, 3), 1);
        x.sniff(0, 1);
        DUE.is("nothing there: 1 less", x.nose(0, 3), 0);
        x.sniff(0, 1);
        DUE.is("0 still", x.nose(0, 3), 0);
    }

    private static void outside() {
        DUE.sentence("Outside TIRED is 3 less (0 at least).");
        for (int tired = 0; tired <= 9; tired++) {
            SmellInTheHouse x = Due.house("e0910;");
            x.fill(0, 10);
            for (int i = 0; i < tired; i++) {
                x.sniff(0, 0);
            }
            DUE.is("tired " + tired, x.nose(0, 3), tired);
            int due = tired > 3 ? tired - 3 : 0;
            DUE.is("outside, tired " + tired, x.outside(0), due);
            DUE.is("it stays so", x.nose(0, 3), due);
        }
        SmellInTheHouse x = Due.house("e0910;e0910;");
        x.fill(0, 10);
        for (int i = 0; i < 9; i++) {
            x.sniff(0, 0);
        }
        x.sniff(1, 0);
        DUE.is("the one, though the other sniffed", x.outside(0), 6);
        DUE.is("not the other", x.nose(1, 3), 1);
        DUE.is("the other", x.outside(1), 0);
        DUE.is("not the one", x.nose(0, 3), 6);
    }
}
