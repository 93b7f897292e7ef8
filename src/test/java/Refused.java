import java.util.function.Consumer;
import java.util.function.ToLongFunction;

/** Refused calls: what they answer, which refusal is counted, and that nothing else changes. */
final class Refused {
    /** Four rooms, four sources (the third a mouse), two noses, a row of five, four letters, an image. */
    static final String HOUSE = "n4;f012;f103;f234;o05;s10050;s21340;s41430;s50020;";
    static final String MORE = "e0310;e4210;x12;";

    private final Due due;

    Refused(Due due) {
        this.due = due;
    }

    /** The house as it is ahead of each refused call. */
    static SmellInTheHouse rich() {
        SmellInTheHouse x = Due.house("n3;o07;s10009;e0105;x01;");
        x.fill(0, 30);
        x.sniff(0, 0);
        x.image();
        x = Due.house(HOUSE);
        Due.tell(x, "x02;");
        x.go(1);
        x.image();
        Due.tell(x, MORE);
        x.go(3);
        x.set(0, 2);
        x.set(1, 150);
        x.set(2, 20);
        x.fill(3, 70);
        x.sniff(0, 0);
        x.sniff(1, 3);
        Due.places(x, 0, 3, 9, 1, 0);
        Due.feed(x, "o29;");
        return x;
    }

    /** A call on the rich house is refused with a code, and answers so. */
    void is(String what, ToLongFunction<SmellInTheHouse> call, long answer, int code) {
        isThen(what, x -> { }, call, answer, code);
    }

    /** The same, when something more has been done ahead. */
    void isThen(String what, Consumer<SmellInTheHouse> ahead, ToLongFunction<SmellInTheHouse> call, long answer,
            int code) {
        SmellInTheHouse x = rich();
        SmellInTheHouse twin = rich();
        ahead.accept(x);
        ahead.accept(twin);
        due.is(what, call.applyAsLong(x), answer);
        for (int refusal = 1; refusal <= 6; refusal++) {
            int more = -refusal == code ? 1 : 0;
            due.is(what + ", refusals -" + refusal, x.count(10 + refusal) - twin.count(10 + refusal), more);
        }
        String is = all(x);
        String was = all(twin);
        due.is(what + " changes nothing: " + (is.equals(was) ? "" : is + " from " + was), is.equals(was) ? 1 : 0, 1);
    }

    /** All that can be seen of an object; it is used up by that. */
    private static String all(SmellInTheHouse x) {
        StringBuilder s = new StringBuilder();
        seen(x, s);
        s.append(" letters ").append(x.house());
        s.append(" out ").append(x.room(2, 1));
        s.append(" said ").append(x.sniff(1, 1));
        s.append(" image ").append(x.restore());
        seen(x, s);
        return s.toString();
    }

    private static void seen(SmellInTheHouse x, StringBuilder s) {
        for (int what = 0; what <= 7; what++) {
            s.append(' ').append(x.count(what));
        }
        for (int room = 0; room < x.count(0); room++) {
            s.append(" room ").append(x.room(room, 0)).append(' ').append(x.room(room, 1));
            for (int to = 0; to < x.count(0); to++) {
                s.append(' ').append(to == room ? 0 : x.flow(room, to, 0));
                s.append(' ').append(to <= room ? 0 : x.flow(room, to, 1));
            }
        }
        for (int source = 0; source < x.count(1); source++) {
            for (int what = 0; what <= 3; what++) {
                s.append(' ').append(x.source(source, what));
            }
        }
        for (int nose = 0; nose < x.count(2); nose++) {
            s.append(" nose ").append(x.says(nose));
            for (int what = 0; what <= 3; what++) {
                s.append(' ').append(x.nose(nose, what));
            }
        }
        int[] least = {0, 1, 0};
        for (int what = 0; what < 3; what++) {
            int was = x.set(what, least[what]);
            x.set(what, was);
            s.append(" setting ").append(was);
        }
    }
}
