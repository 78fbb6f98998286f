import java.io.IOException;
import java.nio.file.Files;
import java.nio.file.Path;
import java.util.regex.Matcher;
import java.util.regex.Pattern;

/**
 * The text of ../shared/DOC.md, part by part. What a test quotes of it must stand there, and in the end all
 * of it must be quoted: so no sentence is without a test of its own.
 */
final class Document {
    private final String text;
    private final boolean[] isQuoted;
    private int from;
    private int to;
    private String sentence = "";

    Document() throws IOException {
        text = Files.readString(Path.of("../shared/DOC.md")).replace("```text", "").replace("`", "").replaceAll("\\s+", " ");
        isQuoted = new boolean[text.length()];
        to = text.length();
    }

    /** A heading, with the signature behind it: what is quoted next stands below it. */
    void part(String heading) {
        Matcher matcher = Pattern.compile(Pattern.quote("## " + heading) + "( (\\w+ )?\\w+\\([^:]*: )?").matcher(text);
        boolean isThere = matcher.find();
        new Run(heading).same("stands in the document", isThere, true);
        if (isThere) {
            from = matcher.end();
            int next = text.indexOf(" ## ", from);
            to = next < 0 ? text.length() : next;
            quote(matcher.start(), from);
        }
    }

    /** A new run on a new object for the sentence, or the part of one. */
    Run says(String words) {
        sentence = words;
        int start = text.indexOf(words, from);
        boolean isThere = start >= 0 && start + words.length() <= to;
        if (isThere) {
            quote(start, start + words.length());
        }
        return again().same("stands in the document", isThere, true);
    }

    /** One more run for the latest sentence. */
    Run again() {
        return new Run(sentence);
    }

    /** The document's own examples, each a new run whose calls are due as they are written there. */
    int runExamples() {
        Matcher matcher = Pattern.compile(" \\d\\. ([^:.;]+): (jar\\(|bag\\()(.*?)\\.(?= \\d\\. | ## )").matcher(text);
        int count = 0;
        while (matcher.find()) {
            new Run(matcher.group(1)).due(matcher.group(2) + matcher.group(3));
            count++;
        }
        return count;
    }

    /** What another test has, or what no test can show: it must stand in the document word for word. */
    void testedElsewhere(String firstWords, String lastWords) {
        int start = text.indexOf(firstWords, from);
        int last = start < 0 ? -1 : text.indexOf(lastWords, start);
        boolean isThere = last >= 0 && last < to;
        new Run(firstWords).same("stands in the document", isThere, true);
        if (isThere) {
            quote(start, last + lastWords.length());
        }
    }

    /** From its first line to its last. */
    void isQuotedWhole() {
        StringBuilder left = new StringBuilder();
        for (int i = 0; i < text.length(); i++) {
            if (!isQuoted[i]) {
                left.append(text.charAt(i));
            } else if (left.length() > 0 && left.charAt(left.length() - 1) != '|') {
                left.append('|');
            }
        }
        String words = left.toString().replaceAll("[^\\w|]*\\|", "|").replaceAll("\\|+", "|").replaceAll("^\\||\\W+$", "");
        new Run("the document").same("what no test quotes", words, "");
    }

    private void quote(int start, int end) {
        for (int i = start; i < end; i++) {
            isQuoted[i] = true;
        }
    }
}
