import java.io.IOException;
import java.nio.file.Files;
import java.nio.file.Path;
import java.util.Arrays;

/** Each sentence of the document has a test of its own, under its own words. */
public final class SentencesTest extends Checks {
    private static final Path DOCUMENT = Path.of("../shared/DOC.md");

    private SentencesTest() { }

    public static void main(String[] args) throws IOException {
        TermsOne.ask();
        TermsTwo.ask();
        TermsThree.ask();
        TermsFour.ask();
        Calls.ask();
        String document = Files.readString(DOCUMENT);
        int from = document.indexOf("## Terms");
        int till = document.indexOf("## Not promised");
        about("the quotes");
        for (String quote : QUOTES) {
            if (!told(document).contains(quote)) fault("the document does not say \"" + quote + "\"");
        }
        allAsked(told(document.substring(from, till)));
        end();
    }

    /** A text of the document in one row, without headings and the faces of the calls. */
    private static String told(String text) {
        StringBuilder told = new StringBuilder();
        for (String line : text.split("\n")) {
            if (!line.startsWith("#") && !line.startsWith("```")) told.append(line.replaceFirst("^(`[^`]*`: |[IV]+\\. )", "")).append(' ');
        }
        return told.toString().replaceAll("\\s+", " ");
    }

    /** No word of the terms and promises stands in no quote. */
    private static void allAsked(String text) {
        char[] open = text.toCharArray();
        for (String quote : QUOTES) {
            for (int at = text.indexOf(quote); at >= 0; at = text.indexOf(quote, at + 1)) Arrays.fill(open, at, at + quote.length(), '|');
        }
        for (String left : new String(open).split("\\|+")) {
            if (left.matches(".*[A-Za-z0-9].*")) fault("asked by no test: \"" + left.trim() + "\"");
        }
    }
}
