import java.io.IOException;
import java.nio.file.Files;
import java.nio.file.Path;
import java.util.List;
import java.util.regex.Matcher;
import java.util.regex.Pattern;
import java.util.stream.Stream;

/** What the Edges tests quote stands in the document, and they ask for every promise of it. */
public final class QuotesTest {
    private static final Check check = new Check("QuotesTest");
    private static final Pattern QUOTE = Pattern.compile("\\.sentence\\(\"([^\"]*)\"\\)");
    /** Behind a quote that stands in several promises, whose it is. */
    private static final Pattern OF_PROMISE = Pattern.compile(" \\((\\w+)\\)$");

    private QuotesTest() {
    }

    public static void main(String[] args) throws IOException {
        String document = Files.readString(Path.of("../shared/DOC.md"));
        StringBuilder tests = new StringBuilder();
        try (Stream<Path> files = Files.list(Path.of("src/test/java"))) {
            List<Path> edges = files.filter(file -> file.getFileName().toString().startsWith("Edges")).sorted().toList();
            for (Path file : edges) {
                tests.append(Files.readString(file));
            }
        }
        quotesStandInTheDocument(document, tests.toString());
        everyPromiseIsAskedFor(document, tests.toString());
        check.finish();
    }

    private static void quotesStandInTheDocument(String document, String tests) {
        String words = document.replaceAll("\\s+", " ");
        Matcher quote = QUOTE.matcher(tests);
        int quotes = 0;
        while (quote.find()) {
            quotes++;
            Matcher of = OF_PROMISE.matcher(quote.group(1));
            boolean ofPromise = of.find();
            String place = ofPromise ? promise(words, of.group(1)) : words;
            String text = ofPromise ? quote.group(1).substring(0, of.start()) : quote.group(1);
            // A gap of a quote looks as the document's own "0 .. 99" does: the parts are looked for one behind the other.
            int from = 0;
            for (String part : text.split(" \\.\\. ")) {
                int at = place.indexOf(part, from);
                check.same("the document has '" + part + "' of '" + quote.group(1) + "'", at >= 0, true);
                from = Math.max(from, at + part.length());
            }
        }
        check.same("quotes were found", quotes > 100, true);
    }

    /** What the document says of a promise, or nothing. */
    private static String promise(String words, String name) {
        Matcher matcher = Pattern.compile("## Promise \\d+: " + name + " (.*?)(?=## )").matcher(words);
        return matcher.find() ? matcher.group(1) : "";
    }

    private static void everyPromiseIsAskedFor(String document, String tests) {
        Matcher promise = Pattern.compile("(?m)^## Promise (\\d+): (.+)$").matcher(document);
        int promises = 0;
        while (promise.find()) {
            promises++;
            check.same("promises are numbered", Integer.parseInt(promise.group(1)), promises);
            String call = promises == 1 ? "new ElsewhereStamps()" : "." + promise.group(2) + "(";
            check.same("the Edges tests ask for " + call, tests.contains(call), true);
        }
        check.same("promises", promises, 36);
    }
}
