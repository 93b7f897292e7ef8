import java.io.IOException;
import java.lang.reflect.Constructor;
import java.lang.reflect.Field;
import java.lang.reflect.Method;
import java.lang.reflect.Modifier;
import java.nio.file.Files;
import java.nio.file.Path;
import java.util.ArrayList;
import java.util.HashSet;
import java.util.List;
import java.util.Set;
import java.util.TreeSet;
import java.util.regex.Matcher;
import java.util.regex.Pattern;

/** What can be seen of ../shared/LANGUAGE.md from the class and from its text, and the public face. */
public final class LanguageTest {
    private static final Due DUE = new Due("LanguageTest");
    private static final Path FILE = Path.of("src/main/java/SmellInTheHouse.java");
    private static final String[] FACE = {
        "int alone(int,int)", "int apart(int)", "int behind(int,int)", "int bestDoor(int,int)",
        "int bestRound(int,int,int)", "int bestTape(int,int)", "int call()", "int clear()", "int count(int)",
        "int door(int,int,boolean)", "int feed(int)", "int fill(int,int)", "int flow(int,int,int)", "int go(int)",
        "int house()", "int image()", "int likely(int,int)", "int mouse(int,int)", "int nose(int,int)",
        "int outside(int)", "int restore()", "int room(int,int)", "int row(int)", "int says(int)",
        "int seeds(int,int)", "int set(int,int)", "int share(int,int,int)", "int sniff(int,int)",
        "int source(int,int)", "int still()", "int strongest(int,int)", "int tape(int,int,int)", "int when(int,int)",
        "long any(int,int,int)", "long odds(int,int,int,int)"
    };

    public static void main(String[] args) throws IOException {
        face();
        faceOfDocument();
        names();
        fields();
        String text = withoutComments(Files.readString(FILE));
        words(text);
        library(text);
        objects(text);
        methods(text);
        DUE.end();
    }

    private static void face() {
        Class<?> c = SmellInTheHouse.class;
        DUE.is("public and final", c.getModifiers(), Modifier.PUBLIC | Modifier.FINAL);
        Constructor<?>[] made = c.getDeclaredConstructors();
        DUE.is("constructors", made.length, 1);
        DUE.is("constructor's parameters", made[0].getParameterCount(), 0);
        DUE.is("constructor is public", made[0].getModifiers(), Modifier.PUBLIC);
        Set<String> open = new TreeSet<>();
        for (Method m : c.getDeclaredMethods()) {
            if (!Modifier.isPrivate(m.getModifiers())) {
                open.add(told(m));
                DUE.is("modifiers of " + told(m), m.getModifiers(), Modifier.PUBLIC);
            }
        }
        holds("the face is as told: " + open, open.equals(new TreeSet<>(List.of(FACE))));
    }

    /** The document's own list, so that a changed one is noticed. */
    private static void faceOfDocument() {
        if (!Due.hasDocument()) {
            return;
        }
        String doc = Due.document();
        Matcher block = Pattern.compile("```java public final class SmellInTheHouse \\{ (.*?) \\} ```").matcher(doc);
        holds("the document tells the face", block.find());
        Set<String> open = new TreeSet<>();
        for (String member : block.group(1).split(";")) {
            String told = member.trim().replaceFirst("^public ", "").replaceAll("(int|boolean) \\w+(,|\\))", "$1$2");
            open.add(told.replace(", ", ","));
        }
        Set<String> own = new TreeSet<>(List.of(FACE));
        own.add("SmellInTheHouse()");
        holds("the face is the document's: " + open, open.equals(own));
    }

    private static String told(Method m) {
        StringBuilder all = new StringBuilder(m.getReturnType().getSimpleName() + " " + m.getName() + "(");
        for (Class<?> p : m.getParameterTypes()) {
            all.append(all.charAt(all.length() - 1) == '(' ? "" : ",").append(p.getSimpleName());
        }
        return all.append(")").toString();
    }

    private static void names() {
        Set<String> open = new HashSet<>();
        for (String face : FACE) {
            open.add(face.substring(face.indexOf(' ') + 1, face.indexOf('(')));
        }
        List<Class<?>> all = classes();
        holds("some twelve classes: " + all.size(), all.size() <= 12);
        for (Class<?> c : all) {
            for (Method m : c.getDeclaredMethods()) {
                boolean isFace = c == SmellInTheHouse.class && Modifier.isPublic(m.getModifiers());
                holds("a name of the face's own: " + m, isFace || !open.contains(m.getName()));
                holds("seven parameters: " + m, m.getParameterCount() <= 7);
            }
        }
    }

    private static List<Class<?>> classes() {
        List<Class<?>> all = new ArrayList<>(List.of(SmellInTheHouse.class));
        for (Class<?> c : SmellInTheHouse.class.getDeclaredClasses()) {
            holds("static: " + c, Modifier.isStatic(c.getModifiers()));
            holds("not open: " + c, !Modifier.isPublic(c.getModifiers()) && !Modifier.isProtected(c.getModifiers()));
            all.add(c);
        }
        return all;
    }

    private static void fields() {
        for (Class<?> c : classes()) {
            int own = 0;
            for (Field f : c.getDeclaredFields()) {
                boolean isStatic = Modifier.isStatic(f.getModifiers());
                holds("final: " + f, !isStatic || Modifier.isFinal(f.getModifiers()));
                holds("private: " + f, c != SmellInTheHouse.class || Modifier.isPrivate(f.getModifiers()));
                own += isStatic ? 0 : 1;
            }
            holds("some twenty fields: " + c + " " + own, own <= 20);
        }
    }

    private static String withoutComments(String text) {
        return text.replaceAll("(?s)/\\*.*?\\*/", "").replaceAll("//[^\n]*", "");
    }

    private static void words(String text) {
        String[] none = {"throw", "throws", "try", "catch", "finally", "synchronized", "assert", "instanceof", "protected",
            "equals", "hashCode", "toString", "float", "double", "volatile", "native", "record", "interface", "package"};
        for (String word : none) {
            holds("no " + word, !Pattern.compile("\\b" + word + "\\b").matcher(text).find());
        }
        holds("no lambda, no method reference", !text.contains("->") && !text.contains("::"));
        holds("no text", !text.contains("\""));
        holds("no static block", !Pattern.compile("static\\s*\\{").matcher(text).find());
        for (int i = 0; i < text.length(); i++) {
            if (text.charAt(i) >= 127) {
                DUE.is("a sign", text.charAt(i), 0);
            }
        }
    }

    private static void library(String text) {
        each(text, "^import\\s+([^;]+);", Set.of("java.util.Arrays"));
        each(text, "\\bSystem\\.(\\w+)", Set.of("arraycopy"));
        each(text, "\\bArrays\\.(\\w+)", Set.of("fill"));
        each(text, "\\bMath\\.(\\w+)", Set.of("min", "max"));
    }

    private static void each(String text, String pattern, Set<String> may) {
        Matcher m = Pattern.compile(pattern, Pattern.MULTILINE).matcher(text);
        while (m.find()) {
            holds("may be used: " + m.group(), may.contains(m.group(1)));
        }
    }

    /** Nothing is made but the fields' own rows, so a run of calls makes nothing more. */
    private static void objects(String text) {
        for (String line : text.split("\n")) {
            if (Pattern.compile("\\bnew\\b").matcher(line).find()) {
                holds("made in a final field: " + line, line.matches("\\s+(private )?final [\\w\\[\\]]+ \\w+ = new .*;"));
            }
        }
    }

    private static void methods(String text) {
        Matcher m = Pattern.compile("(?m)^( +)[\\w\\[\\] ]+\\([^;{]*\\) \\{$").matcher(text);
        int looked = 0;
        while (m.find()) {
            int end = text.indexOf("\n" + m.group(1) + "}", m.end());
            long lines = text.substring(m.start(), Math.max(m.start(), end)).lines().count();
            holds("some sixty lines: " + m.group(), lines <= 60);
            looked++;
        }
        holds("methods are found: " + looked, looked > 90);
    }

    private static void holds(String what, boolean so) {
        DUE.is(what, so ? 1 : 0, 1);
    }
}
