import java.io.IOException;
import java.nio.file.Files;
import java.nio.file.Path;
import java.util.ArrayList;
import java.util.Arrays;
import java.util.List;
import java.util.TreeMap;
import java.util.regex.Matcher;
import java.util.regex.Pattern;

/**
 * Each test of an edge says the promise's number and the document's words; these are indeed the document's, and
 * no sentence of it that tells a number, a refusal or a choice among several is without a test.
 */
public final class QuotesTest {
    private static final Path DOC = Path.of("../shared/DOC.md");
    private static final Path TESTS = Path.of("src/test/java");
    private static final int PROMISES = 42;

    public static void main(String[] args) throws IOException {
        if (!Files.exists(DOC)) {
            System.out.println("there is no " + DOC + " to hold the quotes against");
            return;
        }
        String doc = Files.readString(DOC);
        List<String> quotes = new ArrayList<>();
        TreeMap<Integer, List<String>> quotesOf = new TreeMap<>();
        for (String comment : commentsOfEdges()) {
            Matcher quote = Pattern.compile("Promise (\\d+): \"([^\"]*)\"").matcher(comment);
            boolean hasAny = false;
            while (quote.find()) {
                hasAny = true;
                quotes.add(quote.group(2));
                quotesOf.computeIfAbsent(Integer.valueOf(quote.group(1)), key -> new ArrayList<>())
                        .add(quote.group(2));
                Due.is("the document has \"" + quote.group(2) + "\"", flat(doc).contains(quote.group(2)), true);
            }
            Due.is("has a promise's number and words: " + comment, hasAny, true);
        }
        terms(doc, quotes);
        limits(flat(doc.substring(doc.indexOf("## Terms"), doc.indexOf("## Not promised"))), quotes);
        for (int promise = 1; promise <= PROMISES; promise++) {
            sentencesOfPromise(doc, promise, quotesOf.getOrDefault(promise, List.of()));
        }
        Due.end();
    }

    private static String flat(String text) {
        return text.replaceAll("(?m)^```.*$", " ").replaceAll("==== \\d\\.", " ")
                .replaceAll("\\s+", " ");
    }

    /** The comments ahead of the tests, which are private functions without an argument; each must have one. */
    private static List<String> commentsOfEdges() throws IOException {
        List<String> comments = new ArrayList<>();
        try (var files = Files.list(TESTS)) {
            for (Path file : files.filter(f -> f.toString().endsWith("EdgesTest.java")).sorted().toList()) {
                String code = Files.readString(file);
                String calls = code.substring(code.indexOf("main("), code.indexOf("Due.end()"));
                Matcher test = Pattern.compile("(?s)(/\\*\\*((?!\\*/).)*\\*/)?\\s*private static void (\\w+)\\(\\) \\{")
                        .matcher(code);
                while (test.find()) {
                    Due.is(file + " calls " + test.group(3), calls.contains(" " + test.group(3) + "();"), true);
                    comments.add(test.group(1) == null ? test.group(3) : test.group(1).replaceAll("\n\\s*\\* ", " "));
                }
            }
        }
        return comments;
    }

    private static void terms(String doc, List<String> quotes) {
        String terms = doc.substring(doc.indexOf("## Terms"), doc.indexOf("The constants:"));
        for (String sentence : sentences(terms.substring("## Terms".length()))) {
            isQuoted("Terms", sentence, quotes);
        }
    }

    /** Each "0 .. 9", "24 at most", "at least two" and the like stands in words that a test quotes. */
    private static void limits(String doc, List<String> quotes) {
        boolean[] isQuoted = new boolean[doc.length()];
        for (String quote : quotes) {
            for (int at = doc.indexOf(quote); at >= 0; at = doc.indexOf(quote, at + 1)) {
                Arrays.fill(isQuoted, at, at + quote.length(), true);
            }
        }
        Matcher limit = Pattern.compile("-?[\\d,]+ \\.\\. -?[\\w,]+|at most|at least|more than|below|above|of several"
                + "|of alike|there (are|were)|NONE: |HIDDEN: |False: |-2: |or more|cut").matcher(doc);
        while (limit.find()) {
            String around = doc.substring(Math.max(0, limit.start() - 30), Math.min(doc.length(), limit.end() + 30));
            Due.is("a test quotes \"" + limit.group() + "\" in \"" + around + "\"",
                    isQuoted[limit.start()] && isQuoted[limit.end() - 1], true);
        }
    }

    private static void sentencesOfPromise(String doc, int promise, List<String> quotes) {
        int from = doc.indexOf("## Promise " + promise + ":");
        int to = doc.indexOf("\n## ", from);
        String text = doc.substring(from, to);
        for (String sentence : sentences(text.substring(text.indexOf("`: ") + 3))) {
            isQuoted("Promise " + promise, sentence, quotes);
        }
    }

    /** Cut behind a point, a semicolon too; the points of "0 .. 9" are none. */
    private static List<String> sentences(String text) {
        List<String> sentences = new ArrayList<>();
        for (String sentence : flat(text).trim().split("(?<=[^. ][.;]|[)][.;]) ")) {
            sentences.add(sentence.trim());
        }
        return sentences;
    }

    private static void isQuoted(String where, String sentence, List<String> quotes) {
        String words = sentence.replaceAll("[.;]$", "");
        boolean isQuoted = quotes.stream()
                .anyMatch(quote -> quote.contains(words) || words.contains(quote.replaceAll("[.;]$", "")));
        Due.is(where + ": a test quotes \"" + sentence + "\"", isQuoted, true);
    }
}
