/** Promises 7, 10, 11, 13, 25 and 34: the thumb, oaths, journeys, days and dust. */
public final class DaysAndOathsTest {
    public static void main(String[] args) {
        thumbs();
        oaths();
        oathsAndThumbs();
        journeys();
        daysAndDust();
        meanDust();
        Run.end();
    }

    private static void thumbs() {
        new Run("thumbs").due("thumb(30) = 0; account(3) = 30; thumb(1) = 30; thumb(0) = 1; account(3) = 0; account(14) = 3")
            .refused("thumb(-1)", 1, 0).refused("thumb(31)", 1, 0).due("thumb(0) = 0; account(14) = 4; oath() = 19")
            .refused("thumb(0)", 8, 20).refused("thumb(30)", 8, 20).refused("thumb(31)", 1, 0);
    }

    private static void oaths() {
        new Run("oaths").due("thumb(1) = 0").refused("oath()", 9, 1).due("thumb(7) = 1").refused("oath()", 9, 7)
            .due("thumb(0) = 7; days(5) = 0; oath() = 24; account(14) = 5; oathUntil(0) = 24; account(12) = 1")
            .refused("oath()", 8, 20).due("days(18) = 0").refused("oath()", 8, 2)
            .due("days(1) = 0; oathUntil(0) = 24; account(12) = 1").refused("oath()", 8, 1)
            .due("days(1) = 0; account(12) = 0").thrown("NoSuchElementException", "oathUntil(0)")
            .due("oath() = 44; oathUntil(0) = 44")
            .thrown("IndexOutOfBoundsException", "oathUntil(4)", "oathUntil(-1)")
            .thrown("NoSuchElementException", "oathUntil(1)", "oathUntil(3)");
        new Run("oaths at several markets").due("oath() = 19; go(1) = 3; oath() = 22; go(2) = 7; oath() = 26; go(3) = 12")
            .due("oath() = 31; account(12) = 4; oathUntil(0) = 19; oathUntil(1) = 22; oathUntil(2) = 26; days(8) = 0")
            .due("account(12) = 3; oathUntil(1) = 22; oathUntil(3) = 31").thrown("NoSuchElementException", "oathUntil(0)");
    }

    private static void oathsAndThumbs() {
        new Run("the thumb becomes 0 where an oath is").due("oath() = 19; go(1) = 3; thumb(5) = 0; go(0) = 6; account(3) = 0")
            .refused("thumb(1)", 8, 14);
        new Run("on the oath's last day").due("oath() = 19; go(1) = 3; thumb(5) = 0; days(13) = 0; go(0) = 19; account(3) = 0")
            .refused("thumb(1)", 8, 1);
        new Run("behind the oath's last day").due("oath() = 19; go(1) = 3; thumb(5) = 0; days(14) = 0; go(0) = 20")
            .due("account(3) = 5; thumb(6) = 5");
        new Run("the thumb stays where no oath is").due("oath() = 19; go(1) = 3; thumb(5) = 0; go(2) = 7; account(3) = 5");
        new Run("both reasons").due("thumb(5) = 0; days(20) = 0").refused("oath()", 9, 5);
        new Run("an oath first").due("oath() = 19; go(1) = 3; thumb(5) = 0; undo() = 2; go(0) = 6").refused("oath()", 8, 14);
    }

    private static void journeys() {
        new Run("journeys").due("bag(5) = 0").refused("go(0)", 13, 0).refused("go(4)", 3, 4).refused("go(-1)", 3, -1)
            .due("go(2) = 7; account(1) = 2; account(0) = 7; bagOf(0, 1) = 7; account(14) = 2").refused("go(2)", 13, 2)
            .due("go(1) = 11; bagOf(0, 1) = 11; go(3) = 20; bagOf(0, 1) = 20; go(0) = 32; bagOf(0, 1) = 20; account(1) = 0")
            .due("go(3) = 44; go(2) = 49; go(3) = 54; go(1) = 63; go(0) = 66; account(3) = 0");
    }

    private static void daysAndDust() {
        new Run("days and dust").due("days(1) = 0; bag(5) = 0; bagOf(0, 1) = 0; days(19) = 19; bag(6) = 1; days(1) = 21")
            .due("bagOf(0, 1) = 20; bagOf(1, 1) = 1; days(60) = 40; account(0) = 81; account(14) = 6; account(1) = 0")
            .refused("days(0)", 1, 0).refused("days(61)", 1, 0).refused("days(-1)", 1, 0).refused("days(2147483647)", 1, 0)
            .due("beat(0) = 20; days(2) = 22");
    }

    private static void meanDust() {
        new Run("mean dust").thrown("ArithmeticException", "meanDust()")
            .due("bag(5) = 0; meanDust() = 0.0; bag(5) = 1; days(1) = 2; bag(5) = 2; meanDust() = " + 2.0f / 3.0f)
            .due("days(60) = 60; meanDust() = 20.0; beat(1) = 20; meanDust() = " + 40.0f / 3.0f);
    }
}
