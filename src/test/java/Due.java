import java.io.IOException;
import java.nio.file.Files;
import java.nio.file.Path;

/** What all tests share: houses told as texts, answers held against what is due. */
final class Due {
    private static final Path DOC = Path.of("../shared/DOC.md");

    private final String test;
    private String sentence = "";
    private String doc = "";
    private int wrong = 0;
    private int looked = 0;

    Due(String test) {
        this.test = test;
    }

    void is(String what, long got, long want) {
        looked++;
        if (got != want) {
            wrong++;
            System.out.println(test + ": " + sentence + what + " answered " + got + ", due is " + want);
        }
    }

    /** The sentence of the document that the next answers are about; it must stand there so. */
    void sentence(String words) {
        sentence = "";
        if (hasDocument()) {
            is("does the document tell \"" + words + "\"", doc().contains(words) ? 1 : 0, 1);
        }
        sentence = "\"" + words + "\": ";
    }

    private String doc() {
        if (doc.isEmpty()) {
            doc = document();
        }
        return doc;
    }

    /** Where only the tests are shared the program is tested all the same. */
    static boolean hasDocument() {
        return Files.exists(DOC);
    }

    /** The document in one line, with one space wherever there is some. */
    static String document() {
        try {
            return Files.readString(DOC).replaceAll("\\s+", " ");
        } catch (IOException e) {
            System.out.println("there is no " + DOC + ": " + e);
            System.exit(1);
            return "";
        }
    }

    /** The first of the answers that differs, told with its place. */
    void are(String what, long[] got, long... want) {
        is(what + " (how many)", got.length, want.length);
        for (int i = 0; i < Math.min(got.length, want.length); i++) {
            is(what + " [" + i + "]", got[i], want[i]);
        }
    }

    void end() {
        System.out.println(test + ": " + looked + " answers looked at, " + wrong + " wrong");
        if (wrong != 0) {
            System.exit(1);
        }
    }

    static void feed(SmellInTheHouse x, String letters) {
        for (int i = 0; i < letters.length(); i++) {
            x.feed(letters.charAt(i));
        }
    }

    static int tell(SmellInTheHouse x, String letters) {
        feed(x, letters);
        return x.house();
    }

    static SmellInTheHouse house(String letters) {
        SmellInTheHouse x = new SmellInTheHouse();
        int statements = tell(x, letters);
        if (statements < 1) {
            System.out.println("the test's own house " + letters + " is at fault: " + statements);
            System.exit(1);
        }
        return x;
    }

    static long[] strengths(SmellInTheHouse x) {
        long[] all = new long[x.count(0)];
        for (int room = 0; room < all.length; room++) {
            all[room] = x.room(room, 0);
        }
        return all;
    }

    static long[] behind(SmellInTheHouse x, int n) {
        long[] all = new long[x.count(0)];
        for (int room = 0; room < all.length; room++) {
            all[room] = x.behind(room, n);
        }
        return all;
    }

    static void places(SmellInTheHouse x, int... places) {
        for (int place : places) {
            x.row(place);
        }
    }
}
