import java.io.IOException;
import java.nio.file.Files;
import java.nio.file.Path;
import java.util.ArrayList;
import java.util.BitSet;
import java.util.List;
import java.util.regex.Matcher;
import java.util.regex.Pattern;
import java.util.stream.Stream;

/** Holds the words that tests quote against the document: each stands there, and none of the document's is left out. */
public final class SentencesTest {
    private static final Path DOCUMENT = Path.of("../shared/DOC.md");
    private static final Path TESTS = Path.of("src/test/java");
    private static final Pattern QUOTE = Pattern.compile("\\bsays\\(((?:\\s*\\+?\\s*\"(?:[^\"\\\\]|\\\\.)*\")+)\\)");
    private static final Pattern PART = Pattern.compile("\"((?:[^\"\\\\]|\\\\.)*)\"");
    /** What is no sentence: headings, signatures, fences, and which part of the face a call stands in. */
    private static final Pattern NO_SENTENCE = Pattern.compile(
        "(?m)^## .*$|`[^`\\n]*`:|```(text)?|^Ahead of the calls .*$");

    private static int wrong = 0;

    private static void must(boolean holds, String what) {
        if (!holds) {
            wrong++;
            System.out.println(what);
        }
    }

    public static void main(String[] args) throws IOException {
        if (!Files.isReadable(DOCUMENT)) {
            System.out.println("there is no document here to hold the tests against");
            return;
        }
        String whole = Files.readString(DOCUMENT);
        int from = whole.indexOf("## Terms");
        int to = whole.indexOf("## Not promised");
        must(from >= 0 && to > from, "the document has no Terms ahead of what is not promised");
        if (wrong == 0) hold(plain(NO_SENTENCE.matcher(whole.substring(from, to)).replaceAll(" ")), plain(whole));
        System.out.println(wrong == 0 ? "each sentence has a test" : wrong + " words are not as in the document");
        if (wrong != 0) System.exit(1);
    }

    private static String plain(String text) {
        return text.replaceAll("\\s+", " ");
    }

    private static void hold(String sentences, String whole) throws IOException {
        BitSet tested = new BitSet(sentences.length());
        for (String quote : quotes()) {
            must(whole.contains(quote), "the document doesn't say: " + quote);
            for (int at = sentences.indexOf(quote); at >= 0; at = sentences.indexOf(quote, at + 1)) {
                tested.set(at, at + quote.length());
            }
        }
        StringBuilder left = new StringBuilder();
        for (int i = 0; i < sentences.length(); i++) left.append(tested.get(i) ? '\n' : sentences.charAt(i));
        for (String words : left.toString().split("\n+")) {
            must(words.trim().matches("(\\d\\.)?"), "no test quotes: " + words.trim());
        }
    }

    private static List<String> quotes() throws IOException {
        List<Path> files;
        try (Stream<Path> all = Files.list(TESTS)) {
            files = all.filter(f -> f.toString().endsWith("Test.java")).sorted().toList();
        }
        List<String> quotes = new ArrayList<>();
        for (Path file : files) {
            Matcher quote = QUOTE.matcher(Files.readString(file));
            while (quote.find()) {
                StringBuilder words = new StringBuilder();
                Matcher part = PART.matcher(quote.group(1));
                while (part.find()) words.append(part.group(1));
                quotes.add(words.toString());
            }
        }
        must(quotes.size() > 100, "so few words are quoted: " + quotes.size());
        return quotes;
    }
}
