/** Promises 12, 13, 34 and 35: sniffs, outside, the image. */
public final class NosesTest {
    private static final Due DUE = new Due("NosesTest");

    public static void main(String[] args) {
        lines();
        tires();
        trained();
        sayers();
        outside();
        refusals();
        image();
        imageOfAll();
        roomsComeBack();
        DUE.end();
    }

    /** The strength from which on a nose says so, looked for by sniffs. */
    private static void line(int kind, int line, int due) {
        SmellInTheHouse x = Due.house("e" + kind + "9" + line + ";");
        x.fill(0, due - 1);
        DUE.is("kind " + kind + " below " + due, x.sniff(0, 0), 0);
        x.fill(0, due);
        DUE.is("kind " + kind + " at " + due, x.sniff(0, 0), 1);
        x.fill(0, 9999);
        DUE.is("kind " + kind + " at most", x.sniff(0, 0), 1);
    }

    private static void lines() {
        line(0, 11, 11);
        line(1, 11, 6);
        line(1, 12, 6);
        line(2, 11, 22);
        line(3, 11, 6);
        line(4, 11, 11);
        line(1, 1, 1);
        line(2, 99, 198);
    }

    private static void tires() {
        SmellInTheHouse x = Due.house("e0210;");
        x.fill(0, 10);
        x.fill(1, 9);
        DUE.is("first", x.sniff(0, 0), 1);
        DUE.is("second", x.sniff(0, 0), 1);
        DUE.is("tired", x.nose(0, 3), 2);
        DUE.is("too tired", x.sniff(0, 0), 0);
        DUE.is("less tired", x.nose(0, 3), 1);
        DUE.is("again", x.sniff(0, 0), 1);
        x.sniff(0, 1);
        x.sniff(0, 1);
        DUE.is("untired", x.nose(0, 3), 0);
        x.sniff(0, 1);
        DUE.is("not below 0", x.nose(0, 3), 0);
        DUE.is("no minute goes by", x.count(3), 0);
    }

    private static void trained() {
        SmellInTheHouse x = Due.house("e3110;");
        x.fill(0, 5);
        for (int i = 1; i <= 12; i++) {
            DUE.is("however tired " + i, x.sniff(0, 0), 1);
            DUE.is("tired " + i, x.nose(0, 3), i);
        }
        DUE.is("where there is nothing", x.sniff(0, 1), 0);
        DUE.is("less tired", x.nose(0, 3), 11);
    }

    private static void sayers() {
        SmellInTheHouse x = Due.house("e4210;e0210;");
        x.fill(0, 10);
        DUE.is("nobody ahead", x.sniff(0, 1), 0);
        DUE.is("another says so", x.sniff(1, 0), 1);
        DUE.is("it says so too, elsewhere", x.sniff(0, 1), 1);
        DUE.is("it smells nothing", x.nose(0, 3), 0);
        x.go(9);
        x.outside(1);
        DUE.is("itself ahead, whenever", x.sniff(0, 1), 1);
        DUE.is("no sayer says so", x.sniff(1, 1), 0);
        DUE.is("the last one alone counts", x.sniff(0, 1), 0);
        x.fill(0, 10);
        DUE.is("by itself", x.sniff(0, 0), 1);
        DUE.is("by itself again", x.sniff(0, 0), 1);
        DUE.is("tired, but said ahead", x.sniff(0, 0), 1);
        DUE.is("less tired for it", x.nose(0, 3), 1);
        DUE.is("a refused sniff is none", x.sniff(1, 2), -1);
        DUE.is("said ahead still", x.sniff(0, 1), 1);
    }

    private static void outside() {
        SmellInTheHouse x = Due.house("e0910;e0910;");
        x.fill(0, 10);
        for (int i = 0; i < 5; i++) {
            x.sniff(0, 0);
            x.sniff(1, 0);
        }
        x.sniff(1, 0);
        DUE.is("3 less", x.outside(0), 2);
        DUE.is("0 at least", x.outside(0), 0);
        DUE.is("0 still", x.outside(0), 0);
        DUE.is("it alone", x.nose(1, 3), 6);
        DUE.is("kept", x.nose(0, 3), 0);
        DUE.is("no minute goes by", x.count(3), 0);
    }

    private static void refusals() {
        SmellInTheHouse x = Due.house("e0910;");
        DUE.is("no nose", x.sniff(1, 0), -1);
        DUE.is("no nose below", x.sniff(-1, 0), -1);
        DUE.is("no room", x.sniff(0, 2), -1);
        DUE.is("no room below", x.sniff(0, -1), -1);
        DUE.is("outside, nobody", x.outside(1), -1);
        DUE.is("outside, nobody below", x.outside(-1), -1);
        DUE.is("refusals -1", x.count(11), 6);
    }

    private static void image() {
        SmellInTheHouse x = new SmellInTheHouse();
        DUE.is("none", x.restore(), -3);
        DUE.is("none still", x.restore(), -3);
        x.go(5);
        DUE.is("taken", x.image(), 5);
        x.go(6);
        DUE.is("restored", x.restore(), 5);
        DUE.is("minute", x.count(3), 5);
        x.go(1);
        DUE.is("restored again", x.restore(), 5);
        x.go(2);
        DUE.is("taken anew", x.image(), 7);
        x.go(1);
        DUE.is("the newer one", x.restore(), 7);
        DUE.is("refusals stay", x.count(13), 2);
    }

    private static void imageOfAll() {
        SmellInTheHouse x = Due.house("n3;f012;o05;s10010;e0210;e4210;x12;");
        x.fill(0, 50);
        x.set(0, 2);
        x.sniff(0, 0);
        x.row(1);
        x.image();
        Due.tell(x, "n5;f019;");
        Due.tell(x, "n5;f014;f403;o01;o48;s20120;e1110;x12;x34;");
        x.fill(4, 9);
        x.set(0, 1);
        x.set(1, 5);
        x.set(2, 5);
        x.sniff(0, 1);
        x.row(2);
        x.feed('n');
        x.room(9, 9);
        DUE.is("restored", x.restore(), 0);
        DUE.is("rooms", x.count(0), 3);
        DUE.is("sources", x.count(1), 1);
        DUE.is("noses", x.count(2), 2);
        DUE.is("strengths", x.count(4), 50);
        DUE.is("shut doors", x.count(7), 1);
        DUE.is("door", x.flow(2, 1, 1), 1);
        DUE.is("flow", x.flow(0, 1, 0), 2);
        DUE.is("out", x.room(0, 1), 5);
        DUE.is("tired", x.nose(0, 3), 1);
        DUE.is("wind", x.set(0, 0), 2);
        DUE.is("danger", x.set(1, 1), 200);
        DUE.is("slip", x.set(2, 1), 10);
        DUE.is("said so ahead of the image", x.sniff(1, 1), 1);
        DUE.is("letters stay", x.count(5), 1);
        DUE.is("the row stays", x.count(6), 2);
        DUE.is("refusals stay", x.count(11), 1);
    }

    private static void roomsComeBack() {
        SmellInTheHouse x = new SmellInTheHouse();
        x.image();
        Due.tell(x, "n3;f021;f201;o25;x02;s12010;e0110;");
        x.fill(2, 40);
        x.restore();
        DUE.is("no room 2", x.room(2, 0), -1);
        DUE.is("come again", Due.tell(x, "n3;"), 1);
        DUE.is("strength", x.room(2, 0), 0);
        DUE.is("out", x.room(2, 1), 1);
        DUE.is("flow", x.flow(0, 2, 0), 0);
        DUE.is("flow back", x.flow(2, 0, 0), 0);
        DUE.is("door", x.flow(0, 2, 1), 0);
        DUE.is("all strengths", x.count(4), 0);
        DUE.is("shut doors", x.count(7), 0);
    }
}
