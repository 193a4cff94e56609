import java.io.IOException;
import java.lang.reflect.Constructor;
import java.lang.reflect.Field;
import java.lang.reflect.Method;
import java.lang.reflect.Modifier;
import java.nio.file.Files;
import java.nio.file.Path;
import java.util.ArrayList;
import java.util.List;
import java.util.Set;
import java.util.regex.Matcher;
import java.util.regex.Pattern;

/** What can be seen mechanically of the rules in LANGUAGE.md; it is run from the project's directory. */
public final class LanguageTest {
    private static final Due DUE = new Due("LanguageTest");
    private static final Path PROGRAM = Path.of("src/main/java/PhraseShelf.java");
    private static final String[] NOT_THERE = {"->", "::", "\\bfinally\\b", "\\btry\\b", "\\bcatch\\b",
        "\\bsynchronized\\b", "\\bassert\\b", "\\bpackage\\b", "\\bfloat\\b", "\\bThread\\b", "\\bObject\\b", "\\bvar\\b",
        "\\bstatic\\s*\\{", "Exact\\(", "\\.equals\\(", "hashCode", "toString", "\\bwhile\\s*\\(true\\)",
        "\\bfor\\s*\\(;;", "\\]\\s*\\[", "\"\\s*\\+", "\\+\\s*\"", "getMessage"};
    private static final Set<String> THROWN = Set.of("IllegalStateException", "IllegalArgumentException",
        "IndexOutOfBoundsException", "NoSuchElementException");
    private static final Set<String> LIBRARY = Set.of("Math.max", "Math.min", "Integer.bitCount", "SIGNS.indexOf");
    private static final Set<Class<?>> CONSTANTS = Set.of(int.class, long.class, boolean.class, char.class, String.class);

    public static void main(String[] args) throws IOException {
        String source = bare(Files.readString(PROGRAM));
        wordsThatAreNotThere(source);
        imports(source);
        thrown(source);
        library(source);
        methodsAreShort(Files.readAllLines(PROGRAM));
        classes();
        DUE.end();
    }

    /** The source without its comments, and with empty texts and characters. */
    private static String bare(String source) {
        return source.replaceAll("(?s)/\\*.*?\\*/", " ").replaceAll("//[^\n]*", " ")
            .replaceAll("'(\\\\.|[^'\\\\])'", "' '").replaceAll("\"(\\\\.|[^\"\\\\])*\"", "\"\"");
    }

    private static void wordsThatAreNotThere(String source) {
        for (String word : NOT_THERE) {
            Matcher found = Pattern.compile(word).matcher(source);
            DUE.sameText(word, found.find() ? found.group() + " at " + found.start() : "not there", "not there");
        }
    }

    private static void imports(String source) {
        List<String> all = all(source, "import\\s+([^;]*);");
        DUE.sameText("imports", all.toString(), "[java.util.NoSuchElementException]");
    }

    private static List<String> all(String source, String pattern) {
        List<String> all = new ArrayList<>();
        Matcher found = Pattern.compile(pattern).matcher(source);
        while (found.find()) {
            all.add(found.group(1));
        }
        return all;
    }

    /** Each exception is made where it is thrown, with nothing or a written text. */
    private static void thrown(String source) {
        List<String> all = all(source, "throw\\s+new\\s+(\\w+)\\((?:\"\")?\\);");
        DUE.same("throws in their form", all.size(), all(source, "\\b(throw)\\b").size());
        for (String name : all) {
            DUE.same(name + " may be thrown", THROWN.contains(name) ? 1 : 0, 1);
        }
        DUE.same("none in a class inside", all(source.substring(source.indexOf("class Tokens")), "\\b(throw)\\b").size(), 0);
    }

    private static void library(String source) {
        for (String call : all(source, "\\b([A-Z]\\w*\\.[a-z]\\w*)\\(")) {
            DUE.same(call + " is in the library", LIBRARY.contains(call) ? 1 : 0, 1);
        }
    }

    /** A method begins at the indent of a member with a "{" and ends at the same indent with "}". */
    private static void methodsAreShort(List<String> lines) {
        int begun = -1;
        for (int i = 0; i < lines.size(); i++) {
            String line = lines.get(i);
            if (line.matches("( {4}| {8})\\w.*\\) ?(throws .*)?\\{") && !line.trim().startsWith("for")
                && !line.trim().startsWith("if") && !line.trim().startsWith("while") && !line.trim().startsWith("switch")) {
                begun = i;
            } else if (begun >= 0 && line.equals(lines.get(begun).replaceAll("\\S.*", "") + "}")) {
                DUE.same("lines of <" + lines.get(begun).trim() + "> over 60", Math.max(0, i - begun - 59), 0);
                begun = -1;
            }
        }
    }

    private static void classes() {
        List<Class<?>> all = new ArrayList<>(List.of(PhraseShelf.class.getDeclaredClasses()));
        all.add(PhraseShelf.class);
        DUE.same("classes over 12", Math.max(0, all.size() - 12), 0);
        for (Class<?> one : all) {
            fields(one);
            for (Method m : one.getDeclaredMethods()) {
                DUE.same("parameters of " + m + " over 7", Math.max(0, m.getParameterCount() - 7), 0);
            }
            for (Constructor<?> c : one.getDeclaredConstructors()) {
                DUE.same("parameters of " + c + " over 7", Math.max(0, c.getParameterCount() - 7), 0);
            }
        }
    }

    private static void fields(Class<?> one) {
        int own = 0;
        for (Field f : one.getDeclaredFields()) {
            if (Modifier.isStatic(f.getModifiers())) {
                DUE.same(f + " is final", Modifier.isFinal(f.getModifiers()) ? 1 : 0, 1);
                DUE.same(f + " is a constant", CONSTANTS.contains(f.getType()) ? 1 : 0, 1);
            } else {
                own++;
            }
        }
        DUE.same("fields of " + one + " over 20", Math.max(0, own - 20), 0);
    }
}
