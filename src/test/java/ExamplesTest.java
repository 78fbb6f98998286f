import java.io.IOException;

/** The examples of the document, run as they are written there, and promise 1. */
public final class ExamplesTest {
    private static final int EXAMPLES = 5;

    public static void main(String[] args) throws IOException {
        new Run("the document").same("number of examples", new Document().runExamples(), EXAMPLES);
        newObject();
        Run.end();
    }

    private static void newObject() {
        new Run("a new object")
            .due("account(0) = 0; account(1) = 0; account(2) = 20; account(3) = 0; account(4) = 0; account(5) = 0")
            .due("account(6) = 0; account(7) = 0; account(8) = 0; account(9) = 0; account(10) = 0; account(11) = 0")
            .due("account(12) = 0; account(13) = 0; account(14) = 0; account(15) = 0; faultPosition() = -1")
            .thrown("NoSuchElementException", "reason(0)", "reason(1)", "reason(2)", "ranked(0)")
            .thrown("NoSuchElementException", "oathUntil(0)", "oathUntil(1)", "oathUntil(2)", "oathUntil(3)")
            .thrown("IndexOutOfBoundsException", "character(0)", "jarOf(0, true)", "bagOf(0, 0)", "told(0)")
            .thrown("ArithmeticException", "meanDust()", "honestShare()")
            .thrown("IllegalStateException", "undo()", "restore()");
    }
}
