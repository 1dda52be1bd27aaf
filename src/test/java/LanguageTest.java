import java.io.IOException;
import java.nio.file.Files;
import java.nio.file.Path;
import java.util.ArrayList;
import java.util.List;
import java.util.Set;
import java.util.regex.Matcher;
import java.util.regex.Pattern;

/** What of LANGUAGE.md can be seen from the text of src/main/java/DiaryHouse.java. */
public final class LanguageTest {
    private static final Set<String> IMPORTS = Set.of("java.util.ArrayList", "java.util.Arrays",
            "java.util.NoSuchElementException");
    private static final Set<String> STATIC_CALLS = Set.of("Math.abs", "Math.max", "Math.min",
            "Integer.bitCount", "Arrays.fill", "Arrays.copyOf", "System.arraycopy");
    private static final String[] FORBIDDEN = {"package", "synchronized", "assert", "finally", "try", "catch",
        "native", "volatile", "transient", "goto", "->", "::", "@", "hashCode", "toString", "getClass", "Object",
        "Random", "Thread", "nanoTime", "currentTimeMillis", "getMessage", "Exact", "protected", "record"};
    private static final int LONGEST_METHOD = 60;
    private static final int MOST_PARAMETERS = 7;

    public static void main(String[] args) throws IOException {
        String source = Files.readString(Path.of("src/main/java/DiaryHouse.java"));
        Due.is("signs beside ASCII", source.chars().filter(c -> c > 126 || c < 32 && c != '\n').count(), 0);
        String code = withoutTexts(source);
        words(code);
        imports(code);
        staticCalls(code);
        methods(code);
        Due.end();
    }

    /** The code alone: comments are gone, and what stands in texts is. */
    private static String withoutTexts(String source) {
        return source.replaceAll("(?s)/\\*.*?\\*/", "").replaceAll("//.*", "")
                .replaceAll("\"(\\\\.|[^\"\\\\])*\"", "\"\"").replaceAll("'(\\\\.|[^'\\\\])'", "'x'");
    }

    private static void words(String code) {
        for (String word : FORBIDDEN) {
            String edge = Character.isLetter(word.charAt(0)) ? "\\b" : "";
            Matcher found = Pattern.compile(edge + Pattern.quote(word) + edge).matcher(code);
            Due.is("\"" + word + "\" stands in the code", found.find(), false);
        }
        Due.is("throws by new alone", count(code, "\\bthrow\\b"), count(code, "\\bthrow new NoSuchElementException\\(\"\"\\)"));
        Due.is("joins texts by +", count(code, "\"\" *\\+|\\+ *\"\""), 0);
    }

    private static void imports(String code) {
        Matcher found = Pattern.compile("import ([^;]*);").matcher(code);
        while (found.find()) {
            Due.is("imports " + found.group(1), IMPORTS.contains(found.group(1)), true);
        }
    }

    private static void staticCalls(String code) {
        Matcher found = Pattern.compile("\\b((?:Math|Integer|Long|Arrays|System|String|Character|List)\\.\\w+)").matcher(code);
        while (found.find()) {
            Due.is("calls " + found.group(1), STATIC_CALLS.contains(found.group(1)), true);
        }
    }

    private static void methods(String code) {
        List<String> lines = new ArrayList<>(List.of(code.split("\n")));
        Pattern head = Pattern.compile("^( {4}| {8})(?! |if |for |while |switch )[\\w\\[\\]<> ]+\\(([^)]*)\\)[\\w ]*\\{$");
        for (int at = 0; at < lines.size(); at++) {
            Matcher found = head.matcher(lines.get(at));
            if (found.find()) {
                int end = lines.subList(at, lines.size()).indexOf(found.group(1) + "}");
                Due.is("lines of" + lines.get(at) + " at most " + LONGEST_METHOD, end > LONGEST_METHOD, false);
                Due.is("parameters of" + lines.get(at), found.group(2).split(",").length > MOST_PARAMETERS, false);
            }
        }
    }

    private static int count(String code, String pattern) {
        Matcher found = Pattern.compile(pattern).matcher(code);
        int times = 0;
        while (found.find()) {
            times++;
        }
        return times;
    }
}
