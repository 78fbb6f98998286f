import java.io.IOException;

/** Each sentence of the document has a test of its own, and each test stands for a sentence: see Document. */
public final class SentencesTest {
    private static final int MOST_CALLS = 512;

    public static void main(String[] args) throws IOException {
        Document document = new Document();
        document.testedElsewhere("# SpiceScale", "# SpiceScale");
        whatItIs(document);
        latestCalls(document);
        thePublicFace(document);
        SentencesOfTerms.tests(document);
        SentencesOfTexts.tests(document);
        SentencesOfReasons.tests(document);
        SentencesOfChanges.tests(document);
        SentencesOfQueries.tests(document);
        SentencesOfCommands.tests(document);
        notPromised(document);
        document.isQuotedWhole();
        Run.end();
    }

    /** One journey with all that the sentence lists. */
    private static void whatItIs(Document document) {
        document.part("What it is");
        Run run = document.says("The scale of a spice caravan: jars of spices, bags with a tare that gather dust, ")
            .due("jar(2, 900) = 0; bag(12) = 0; jarOf(0, true) = 2; bagOf(0, 0) = 12; days(2) = 2; bagOf(0, 1) = 2; beat(0) = 2");
        document.says("weights that get short by use and are sealed, a thumb on the pan, buyers who notice it, oaths by markets, ");
        run.due("fill(0, 0, 88) = 88").times(8, "weigh(0) = 100").due("weightOf(6, 1) = 1; told(0) = 101; seal(6) = 1")
            .due("thumb(5) = 0; isNoticed(0) = true").refused("sell(0)", 10, 4).due("thumb(0) = 5; oath() = 21");
        document.says("prices, journeys, what a bag would be told to weigh in two ways, which weights would lie on the pan, ");
        run.due("pays(0, 2) = 8; pays(1, 2) = 6; go(1) = 5; go(0) = 8; bagOf(0, 1) = 6; told(0) = 106; toldAgain(0) = 106")
            .due("onPan(0) = 69; rest(0) = 0; honest(0) = 100");
        document.says("what a market would pay, the best market, commands as texts with faults by place, reasons with details, ");
        run.due("wouldGet(0, 0) = 82; wouldGet(0, 1) = 56; bestMarket(0) = 0").faulty("w0;b", 4).refusedText("b0;t1", 8, 14, 1)
            .done("b0;s0", 2).due("account(2) = 95; ranked(0) = 0; honestShare() = 1.0; meanDust() = 0.0");
        document.says("a line, accounts, undo, and a snapshot.");
        run.lineIs(0, "10+2=12").due("account(8) = 88; account(10) = 1; account(12) = 1; undo() = 7; account(10) = 0")
            .due("save() = 8; days(60) = 20; restore() = 8; account(14) = 0; oathUntil(0) = 21; bagOf(0, 3) = 88");
    }

    /** The calls are counted here, so that none behind the last one that is promised is looked at. */
    private static void latestCalls(Document document) {
        Run weighings = document.says("An object is used for at most 512 calls after it has been made");
        weighings.scale.bag(5);
        for (int call = 2; call < MOST_CALLS; call++) {
            weighings.scale.weigh(0);
        }
        weighings.due("weightOf(2, 2) = 510");
        Run days = document.again();
        for (int call = 1; call < MOST_CALLS; call++) {
            days.scale.days(60);
        }
        days.due("account(0) = 30660");
        Run undone = document.again();
        for (int call = 1; call < MOST_CALLS; call++) {
            undone.scale.thumb(call % 31);
        }
        undone.due("undo() = 7");
        Run texts = document.again();
        for (int text = 0; text < 8; text++) {
            for (char character : "n60;n60;n60;n60;n60;n60;n60;n60;n60;n60;n60;n60;n60;n60;n60".toCharArray()) {
                texts.scale.append(character);
            }
            texts.scale.commands();
        }
        texts.due("account(0) = 7200");
        // What is free cannot be tested.
        document.testedElsewhere("; what later calls answer is free.", "; what later calls answer is free.");
    }

    /** FaceTest compares it with the program; here each of its methods is called, with any numbers. */
    private static void thePublicFace(Document document) {
        document.part("The public face");
        Run run = document.says("public SpiceScale();");
        int methods = 0;
        for (java.lang.reflect.Method method : SpiceScale.class.getMethods()) {
            if (method.getDeclaringClass() == SpiceScale.class) {
                methods++;
                throwsWhatItNames(run, method);
            }
        }
        run.same("methods", methods, 38);
        document.testedElsewhere("java import java.util.NoSuchElementException;", "throws IllegalStateException; }");
    }

    private static void throwsWhatItNames(Run run, java.lang.reflect.Method method) {
        int[] numbers = {Integer.MIN_VALUE, -1, 0, 1, 7, 61, 901, Integer.MAX_VALUE};
        for (int number : numbers) {
            for (int other : numbers) {
                Object[] values = new Object[method.getParameterCount()];
                for (int i = 0; i < values.length; i++) {
                    Class<?> type = method.getParameterTypes()[i];
                    int value = i % 2 == 0 ? number : other;
                    values[i] = type == boolean.class ? value > 0 : type == char.class ? (char) value : (Object) value;
                }
                String answer = Run.answer(run.scale, method, values);
                if (answer.startsWith("throws ")) {
                    boolean isNamed = false;
                    for (Class<?> named : method.getExceptionTypes()) {
                        isNamed |= answer.equals("throws " + named.getSimpleName());
                    }
                    run.same(method.getName() + " " + answer + ", which it names", isNamed, true);
                }
            }
        }
    }

    /** What is free cannot be tested; that it stands there so is. */
    private static void notPromised(Document document) {
        document.part("Not promised");
        document.testedElsewhere("How the state is held inside the object is free", "the behaviour of equals and hashCode.");
        document.testedElsewhere("Use of one object from several threads", "is not promised to be safe.");
        document.testedElsewhere("Nothing is promised beyond the answers", "nothing about an object after its 512th call.");
    }
}
