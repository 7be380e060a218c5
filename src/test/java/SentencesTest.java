import java.io.IOException;
import java.nio.file.DirectoryStream;
import java.nio.file.Files;
import java.nio.file.Path;
import java.util.ArrayList;
import java.util.Arrays;
import java.util.List;
import java.util.regex.Matcher;
import java.util.regex.Pattern;

/**
 * Holds the Bounds tests and ReadingTest against the document: what they quote stands there word for word, each
 * place where the document names a boundary lies inside a quote of a Bounds test, and each other word of it inside
 * a quote of either, so that no sentence is without a test.
 */
public final class SentencesTest {
    private static final Pattern QUOTE = Pattern.compile("Check\\.sentence\\(((?:\\s*\\+?\\s*\"(?:[^\"\\\\]|\\\\.)*\")+)\\)");
    private static final Pattern PART = Pattern.compile("\"((?:[^\"\\\\]|\\\\.)*)\"");
    private static final Pattern BOUNDARY = Pattern.compile("\\bNONE\\b|\\bfalse\\b|refused \\(|\\bat most\\b|\\bat first\\b|"
        + "[0-9] \\.\\. [0-9]|[0-9] to [0-9]|more than|the last|8 ROOMS|8 PEOPLE|10 to the 6|2 to the 31|by 0|8th|81st|7th|5th|"
        + "too many|too soon|no wider|of like|one each");
    private static final Pattern HEADING = Pattern.compile("## Terms|```text|\\bI{1,3}\\. |The constants:|"
        + "Ahead of the calls [^-]*---- [a-z, ]+\\.|## Promise [0-9]+: [A-Za-z ]+ `[^`]*`:");

    public static void main(String[] args) throws IOException {
        String root = System.getProperty("ownchair.root", ".");
        String shared = System.getProperty("ownchair.shared", root + "/../shared");
        String document = plain(Files.readString(Path.of(shared, "DOC.md")));
        int terms = document.indexOf("## Terms");
        int promises = document.indexOf("## Promise 1:");
        int behind = document.indexOf("## Not promised");
        Check.due("the document's parts", 0 < terms && terms < promises && promises < behind, true);
        Path tests = Path.of(root, "src", "test", "java");
        boolean[] bounds = new boolean[document.length()];
        markQuotes(document, quotes(tests, "Bounds*Test.java", 100), bounds);
        boundaries(document, bounds, terms, behind);
        eachPromise(document, bounds, behind);
        boolean[] all = bounds.clone();
        markQuotes(document, quotes(tests, "ReadingTest.java", 20), all);
        everyWord(document, all, terms, behind);
        Check.finish();
    }

    private static String plain(String text) {
        return text.replaceAll("\\s+", " ");
    }

    private static List<String> quotes(Path tests, String names, int least) throws IOException {
        List<String> found = new ArrayList<>();
        try (DirectoryStream<Path> files = Files.newDirectoryStream(tests, names)) {
            for (Path file : files) {
                Matcher quote = QUOTE.matcher(Files.readString(file));
                while (quote.find()) {
                    StringBuilder words = new StringBuilder();
                    Matcher part = PART.matcher(quote.group(1));
                    while (part.find()) {
                        words.append(part.group(1));
                    }
                    found.add(plain(words.toString()));
                }
            }
        }
        Check.due("quotes are found in " + names, found.size() > least, true);
        return found;
    }

    private static void markQuotes(String document, List<String> quotes, boolean[] quoted) {
        for (String quote : quotes) {
            int place = document.indexOf(quote);
            Check.due("the document says '" + quote + "'", place >= 0, true);
            while (place >= 0) {
                Arrays.fill(quoted, place, place + quote.length(), true);
                place = document.indexOf(quote, place + 1);
            }
        }
    }

    private static void boundaries(String document, boolean[] quoted, int from, int to) {
        Matcher boundary = BOUNDARY.matcher(document).region(from, to);
        while (boundary.find()) {
            int place = boundary.start();
            String around = document.substring(Math.max(0, place - 60), Math.min(document.length(), place + 60));
            Check.due("a test quotes '" + boundary.group() + "' in '.." + around + "..'", quoted[place], true);
        }
    }

    /** Headings promise nothing by themselves; every word beside them is quoted. */
    private static void everyWord(String document, boolean[] quoted, int from, int to) {
        Matcher heading = HEADING.matcher(document).region(from, to);
        while (heading.find()) {
            Arrays.fill(quoted, heading.start(), heading.end(), true);
        }
        Matcher word = Pattern.compile("[A-Za-z0-9]+").matcher(document).region(from, to);
        while (word.find()) {
            int place = word.start();
            String around = document.substring(Math.max(0, place - 40), Math.min(document.length(), place + 40));
            Check.due("a test quotes '" + word.group() + "' in '.." + around + "..'", quoted[place], true);
        }
    }

    /** Of each promise's text something is quoted. */
    private static void eachPromise(String document, boolean[] quoted, int behind) {
        for (int n = 1; n <= 30; n++) {
            int from = document.indexOf("## Promise " + n + ":");
            int to = n < 30 ? document.indexOf("## Promise " + (n + 1) + ":") : behind;
            boolean any = false;
            for (int i = from; i < to; i++) {
                any |= quoted[i];
            }
            Check.due("a test quotes promise " + n, any, true);
        }
    }
}
