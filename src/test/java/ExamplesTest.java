/** The examples of the document, word for word, and promise 1. */
public final class ExamplesTest {
    public static void main(String[] args) {
        new Run("a thumb on the scale")
            .due("jar(2, 900) = 0; bag(12) = 0; fill(0, 0, 113) = 113; told(0) = 125; onPan(0) = 84")
            .due("thumb(3) = 0; told(0) = 128; rest(0) = 0");
        new Run("spice that is sold")
            .due("jar(2, 900) = 0; bag(12) = 0; fill(0, 0, 113) = 113; sell(0) = 90; account(2) = 110")
            .due("bagOf(0, 3) = 0; honestShare() = 1.0");
        new Run("an oath and what is stolen")
            .due("jar(2, 900) = 0; bag(12) = 0; fill(0, 0, 113) = 113; oath() = 19; sell(0) = 99")
            .due("go(1) = 3; bagOf(0, 1) = 3; oathUntil(0) = 19");
        new Run("weights and a seal")
            .due("jar(4, 900) = 0; bag(20) = 0; fill(0, 0, 80) = 80; weigh(0) = 100; weightOf(6, 2) = 1")
            .due("weightOf(6, 3) = 7; seal(6) = 0; account(2) = 18");
        new Run("a command that is refused")
            .due("bag(9) = 0; append('s') = 1; append('0') = 2")
            .due("commands() = throws UnsupportedOperationException")
            .due("reason(0) = 6; reason(1) = 0; reason(2) = 0");
        newObject();
        Run.end();
    }

    private static void newObject() {
        new Run("a new object")
            .due("account(0) = 0; account(1) = 0; account(2) = 20; account(3) = 0; account(4) = 0; account(5) = 0")
            .due("account(6) = 0; account(7) = 0; account(8) = 0; account(9) = 0; account(10) = 0; account(11) = 0")
            .due("account(12) = 0; account(13) = 0; account(14) = 0; account(15) = 0; faultPosition() = -1")
            .thrown("NoSuchElementException", "reason(0)", "reason(1)", "reason(2)", "ranked(0)")
            .thrown("NoSuchElementException", "oathUntil(0)", "oathUntil(1)", "oathUntil(2)", "oathUntil(3)")
            .thrown("IndexOutOfBoundsException", "character(0)", "jarOf(0, true)", "bagOf(0, 0)", "told(0)")
            .thrown("ArithmeticException", "meanDust()", "honestShare()")
            .thrown("IllegalStateException", "undo()", "restore()");
    }
}
