import java.io.IOException;
import java.nio.file.Files;
import java.nio.file.Path;
import java.util.ArrayList;
import java.util.List;
import java.util.Map;
import java.util.TreeMap;
import java.util.regex.Matcher;
import java.util.regex.Pattern;

/** How deep calls go by the class's text (../shared/LANGUAGE.md, rules 8 and 11): none calls itself, eight deep at most. */
public final class DepthTest {
    private static final Due DUE = new Due("DepthTest");
    private static final int DEEPEST = 8;
    private static final String FACE = "SmellInTheHouse";
    /** Of which class is what a call is made of; by the names that the text uses. */
    private static final Map<String, String> CLASS_OF = new TreeMap<>(Map.ofEntries(
            Map.entry("now", "House"), Map.entry("kept", "House"), Map.entry("draft", "House"), Map.entry("house", "House"),
            Map.entry("sources", "Sources"), Map.entry("noses", "Noses"), Map.entry("letters", "Letters"),
            Map.entry("air", "Air"), Map.entry("courses", "Courses"), Map.entry("walker", "Walker"),
            Map.entry("round", "Round"), Map.entry("tried", "Round"), Map.entry("rounds", "Rounds")));
    private static final List<String> LIBRARY = List.of("Math", "System", "Arrays");
    private static final Pattern CLASS = Pattern.compile("(?m)^ *(?:\\w+ )*class (\\w+) \\{$");
    private static final Pattern METHOD = Pattern.compile("(?m)^( +)(?:\\w+ )*?(?:[\\w\\[\\]]+ )?(\\w+)\\([^;{]*\\) \\{$");
    private static final Pattern CALL = Pattern.compile("(?:(\\w+)\\.)?\\b(\\w+)\\(");
    private static final List<String> NO_CALLS = List.of("if", "for", "while", "switch", "return");

    private static final Map<String, List<String>> CALLED = new TreeMap<>();

    public static void main(String[] args) throws IOException {
        String text = Files.readString(Path.of("src/main/java/SmellInTheHouse.java"));
        text = text.replaceAll("(?s)/\\*.*?\\*/", "").replaceAll("//[^\n]*", "");
        DUE.is("methods are found", methods(text, false) > 100 ? 1 : 0, 1);
        methods(text, true);
        int deepest = 0;
        for (String method : CALLED.keySet()) {
            int depth = depth(method, 0);
            DUE.is(method + " goes " + depth + " deep: is that too deep", depth > DEEPEST ? 1 : 0, 0);
            deepest = Math.max(deepest, depth);
        }
        DUE.is("calls are found: some go deep", deepest > 5 ? 1 : 0, 1);
        DUE.end();
    }

    /** First the names of all methods, then what each one calls. */
    private static int methods(String text, boolean withCalls) {
        Matcher m = METHOD.matcher(text);
        int found = 0;
        while (m.find()) {
            if (NO_CALLS.contains(m.group(2)) || m.group().contains(" else ")) {
                continue;
            }
            String own = classAt(text, m.start());
            String method = own + "." + m.group(2);
            if (withCalls) {
                int end = text.indexOf("\n" + m.group(1) + "}", m.end() - 1);
                calls(own, method, text.substring(m.end(), Math.max(m.end(), end)));
            } else {
                CALLED.put(method, new ArrayList<>());
                found++;
            }
        }
        return found;
    }

    private static String classAt(String text, int place) {
        Matcher m = CLASS.matcher(text);
        String own = FACE;
        while (m.find() && m.start() < place) {
            own = m.group(1);
        }
        return own;
    }

    private static void calls(String own, String method, String body) {
        Matcher m = CALL.matcher(body);
        while (m.find()) {
            String of = m.group(1);
            if (of == null && NO_CALLS.contains(m.group(2)) || of != null && LIBRARY.contains(of)) {
                continue;
            }
            String called = (of == null ? own : CLASS_OF.getOrDefault(of, "?" + of)) + "." + m.group(2);
            if (of == null && !CALLED.containsKey(called)) {
                called = FACE + "." + m.group(2);
            }
            DUE.is(method + " calls " + called + ": is it there", CALLED.containsKey(called) ? 1 : 0, 1);
            CALLED.get(method).add(called);
        }
    }

    /** How many calls stand open at once, this one too; far too many if one calls itself. */
    private static int depth(String method, int above) {
        int most = 0;
        if (above <= DEEPEST) {
            for (String called : CALLED.getOrDefault(method, List.of())) {
                most = Math.max(most, depth(called, above + 1));
            }
        }
        return most + 1;
    }
}
