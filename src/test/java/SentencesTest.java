import java.io.IOException;

/** Each sentence of the document has a test of its own, and each test stands for a sentence: see Document. */
public final class SentencesTest {
    private static final int MOST_CALLS = 512;

    public static void main(String[] args) throws IOException {
        Document document = new Document();
        SentencesOfTerms.tests(document);
        SentencesOfTexts.tests(document);
        SentencesOfReasons.tests(document);
        SentencesOfChanges.tests(document);
        SentencesOfQueries.tests(document);
        SentencesOfCommands.tests(document);
        latestCalls(document);
        document.isQuotedBetween("## Terms", "## Not promised");
        Run.end();
    }

    /** The calls are counted here, so that none behind the last one that is promised is looked at. */
    private static void latestCalls(Document document) {
        document.part("What it is");
        Run weighings = document.says("An object is used for at most 512 calls after it has been made");
        weighings.scale.bag(5);
        for (int call = 2; call < MOST_CALLS; call++) {
            weighings.scale.weigh(0);
        }
        weighings.due("weightOf(2, 2) = 510");
        Run days = document.again();
        for (int call = 1; call < MOST_CALLS; call++) {
            days.scale.days(60);
        }
        days.due("account(0) = 30660");
        Run undone = document.again();
        for (int call = 1; call < MOST_CALLS; call++) {
            undone.scale.thumb(call % 31);
        }
        undone.due("undo() = 7");
        Run texts = document.again();
        for (int text = 0; text < 8; text++) {
            for (char character : "n60;n60;n60;n60;n60;n60;n60;n60;n60;n60;n60;n60;n60;n60;n60".toCharArray()) {
                texts.scale.append(character);
            }
            texts.scale.commands();
        }
        texts.due("account(0) = 7200");
    }
}
