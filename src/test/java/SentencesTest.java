import java.io.IOException;
import java.nio.file.Files;
import java.nio.file.Path;
import java.util.ArrayList;
import java.util.Arrays;
import java.util.List;
import java.util.regex.Matcher;
import java.util.regex.Pattern;

/**
 * Whether every sentence of the document, from its first line to its last promise, is told by some test as its own. Its
 * face is looked at by LanguageTest as a whole; what is not promised is not tested.
 */
public final class SentencesTest {
    private static final Due DUE = new Due("SentencesTest");
    private static final Path TESTS = Path.of("src/test/java");

    public static void main(String[] args) throws IOException {
        if (!Due.hasDocument()) {
            System.out.println("SentencesTest: there is no document here, so its sentences are not looked at");
            return;
        }
        String doc = Due.document();
        doc = doc.substring(0, doc.indexOf("## Not promised")).replaceFirst("```java.*?```", " ");
        for (String head : new String[] {"# SmellInTheHouse", "## What it is", "## The public face", "## Terms"}) {
            doc = doc.replaceFirst(head + " ", " ");
        }
        doc = doc.replace("```text", " ").replace("```", " ").replaceAll("## Promise \\d+: [\\w ]+? (?=`)", " ");
        int sentences = 0;
        boolean[] told = new boolean[doc.length()];
        for (String sentence : sentences()) {
            sentences++;
            for (int at = doc.indexOf(sentence); at >= 0; at = doc.indexOf(sentence, at + 1)) {
                Arrays.fill(told, at, at + sentence.length(), true);
            }
        }
        DUE.is("sentences are found", sentences > 100 ? 1 : 0, 1);
        untold(doc, told);
        DUE.end();
    }

    /** What the tests give to Due.sentence: texts, joined by plus. */
    private static List<String> sentences() throws IOException {
        List<String> all = new ArrayList<>();
        Pattern call = Pattern.compile("DUE\\.sentence\\(((?:\\s*\\+?\\s*\"(?:[^\"\\\\]|\\\\.)*\")+)\\);");
        Pattern text = Pattern.compile("\"((?:[^\"\\\\]|\\\\.)*)\"");
        try (var files = Files.list(TESTS)) {
            for (Path file : files.sorted().toList()) {
                Matcher calls = call.matcher(Files.readString(file));
                while (calls.find()) {
                    StringBuilder sentence = new StringBuilder();
                    Matcher texts = text.matcher(calls.group(1));
                    while (texts.find()) {
                        sentence.append(texts.group(1).replace("\\\"", "\""));
                    }
                    all.add(sentence.toString());
                }
            }
        }
        return all;
    }

    private static void untold(String doc, boolean[] told) {
        StringBuilder run = new StringBuilder();
        for (int i = 0; i <= doc.length(); i++) {
            if (i < doc.length() && !told[i]) {
                run.append(doc.charAt(i));
                continue;
            }
            // Commas and the like may stand between two sentences.
            boolean says = Pattern.compile("\\w").matcher(run).find();
            if (run.length() > 0) {
                DUE.is("no test tells \"" + run + "\": what is untold", says ? 1 : 0, 0);
            }
            run.setLength(0);
        }
    }
}
