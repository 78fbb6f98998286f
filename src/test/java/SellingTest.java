/** Promises 9, 22 to 24, 26 and 35: prices, sales, what a market would give, buyers who notice. */
public final class SellingTest {
    private static final int[][] PRICES = {{2, 5, 8, 4, 7}, {7, 3, 6, 2, 5}, {5, 8, 4, 7, 3}, {3, 6, 2, 5, 8}};

    public static void main(String[] args) {
        prices();
        sales();
        salesRefused();
        whatWouldBeGot();
        bestMarkets();
        noticed();
        shares();
        Run.end();
    }

    private static void prices() {
        Run run = new Run("prices");
        for (int market = 0; market < 4; market++) {
            for (int spice = 0; spice < 5; spice++) {
                run.due("pays(" + market + ", " + spice + ") = " + PRICES[market][spice]);
            }
        }
        run.thrown("IndexOutOfBoundsException", "pays(4, 0)", "pays(-1, 0)", "pays(4, 5)", "pays(-1, -1)")
            .thrown("IllegalArgumentException", "pays(0, 5)", "pays(3, -1)", "pays(0, 2147483647)");
    }

    private static void sales() {
        new Run("a sale").due("jar(2, 900) = 0; bag(12) = 0; fill(0, 0, 113) = 113; days(2) = 2; thumb(4) = 0")
            .due("bagOf(0, 4) = 131; told(0) = 131; sell(0) = 95; account(2) = 115; account(11) = 95; account(10) = 1")
            .due("account(8) = 113; account(9) = 119; bagOf(0, 3) = 0; bagOf(0, 2) = -1; bagOf(0, 1) = 2")
            .due("bagOf(0, 5) = 1; account(14) = 6; account(3) = 4; account(6) = 787; account(7) = 0")
            .due("fill(0, 0, 10) = 10; sell(0) = 12; account(11) = 107; account(2) = 127; account(10) = 2")
            .due("account(8) = 123; account(9) = 135");
        new Run("a sale at another market").due("jar(2, 900) = 0; bag(12) = 0; fill(0, 0, 113) = 113; go(3) = 12")
            .due("told(0) = 137; sell(0) = 25; account(2) = 45");
        new Run("the tenth is rounded down itself").due("jar(2, 900) = 0; bag(12) = 0; fill(0, 0, 24) = 24; oath() = 19")
            .due("sell(0) = 20; account(2) = 40; account(11) = 20; fill(0, 0, 13) = 13; sell(0) = 11");
        new Run("the coins are rounded down before the tenth").due("jar(1, 900) = 0; bag(5) = 0; oath() = 19")
            .due("fill(0, 0, 39) = 39; told(0) = 38; fill(0, 0, 24) = 63; told(0) = 68; sell(0) = 34");
        new Run("no coins at all").due("jar(2, 900) = 0; bag(7) = 0; fill(0, 0, 1) = 1; sell(0) = 0")
            .due("account(10) = 1; account(9) = 1; account(2) = 20; account(11) = 0");
        new Run("an oath elsewhere does not count").due("jar(2, 900) = 0; bag(12) = 0; fill(0, 0, 113) = 113")
            .due("oath() = 19; go(1) = 3; beat(0) = 3; sell(0) = 67; fill(0, 0, 113) = 113; oath() = 22; sell(0) = 73");
    }

    private static void salesRefused() {
        new Run("sales refused").refused("sell(0)", 3, 0)
            .due("jar(2, 900) = 0; bag(8) = 0; bag(45) = 1; bag(7) = 2; thumb(5) = 0")
            .refused("sell(3)", 3, 3).refused("sell(-1)", 3, -1).refused("sell(1)", 6, 1).refused("sell(0)", 6, 0)
            .due("fill(0, 0, 1) = 1; fill(1, 0, 1) = 1").refused("sell(1)", 10, 4).due("thumb(0) = 5")
            .refused("sell(0)", 11, 8).refused("sell(1)", 11, 38).due("wouldGet(0, 0) = 0; wouldGet(1, 0) = 0")
            .due("days(1) = 3; sell(0) = 1");
    }

    private static void whatWouldBeGot() {
        new Run("what would be got").due("jar(2, 900) = 0; bag(12) = 0; bag(9) = 1; fill(0, 0, 113) = 113; oath() = 19")
            .due("wouldGet(0, 0) = 99; wouldGet(0, 1) = 67; wouldGet(0, 2) = 45; wouldGet(0, 3) = 22; go(1) = 3")
            .due("thumb(30) = 0; bagOf(0, 4) = 158; told(0) = 158; isNoticed(0) = true")
            .due("wouldGet(0, 0) = 127; wouldGet(0, 1) = 87; wouldGet(0, 3) = 29")
            .thrown("IndexOutOfBoundsException", "wouldGet(2, 0)", "wouldGet(-1, 0)", "wouldGet(0, 4)", "wouldGet(0, -1)")
            .thrown("IndexOutOfBoundsException", "wouldGet(1, 4)", "bestMarket(2)", "bestMarket(-1)")
            .thrown("NoSuchElementException", "wouldGet(1, 0)", "bestMarket(1)")
            .due("account(14) = 7; weightOf(6, 2) = 0")
            .due("days(17) = 40; wouldGet(0, 0) = 130; told(0) = 175; bagOf(0, 5) = 0");
    }

    private static void bestMarkets() {
        new Run("the best markets").due("jar(0, 900) = 0; jar(1, 900) = 1; jar(4, 900) = 2; bag(10) = 0; bag(10) = 1")
            .due("bag(10) = 2; fill(0, 0, 100) = 100; fill(1, 1, 100) = 100; fill(2, 2, 100) = 100")
            .due("bestMarket(0) = 1; bestMarket(1) = 2; bestMarket(2) = 3");
        new Run("an oath makes a market the best").due("jar(4, 900) = 0; bag(10) = 0; fill(0, 0, 100) = 100")
            .due("wouldGet(0, 0) = 70; wouldGet(0, 3) = 80; fill(0, 0, 28) = 128; oath() = 19; wouldGet(0, 0) = 97")
            .due("wouldGet(0, 3) = 102; bestMarket(0) = 3");
        new Run("of several the nearest").due("jar(3, 900) = 0; bag(5) = 0; fill(0, 0, 2) = 2; told(0) = 7")
            .due("wouldGet(0, 0) = 0; wouldGet(0, 1) = 0; wouldGet(0, 2) = 1; wouldGet(0, 3) = 1; bestMarket(0) = 2")
            .due("go(3) = 12; beat(0) = 12; bestMarket(0) = 3; go(1) = 21; beat(0) = 9; bestMarket(0) = 2");
        new Run("the nearest is not the lowest").due("jar(2, 900) = 0; bag(5) = 0; fill(0, 0, 2) = 2")
            .due("wouldGet(0, 0) = 1; wouldGet(0, 1) = 1; wouldGet(0, 2) = 0; bestMarket(0) = 0")
            .due("go(2) = 7; beat(0) = 7; bestMarket(0) = 1; go(3) = 12; beat(0) = 5; bestMarket(0) = 1");
        new Run("nothing to be got").due("jar(2, 900) = 0; bag(8) = 0; fill(0, 0, 1) = 1; bestMarket(0) = 0; go(2) = 7")
            .due("beat(0) = 7; wouldGet(0, 2) = 0; bestMarket(0) = 2");
    }

    private static void noticed() {
        int[] most = {4, 9, 14, 20};
        Run run = new Run("noticed");
        for (int market = 0; market < 4; market++) {
            run.scale.thumb(most[market]);
            run.due("isNoticed(" + market + ") = false");
            run.scale.thumb(most[market] + 1);
            run.due("isNoticed(" + market + ") = true");
        }
        run.thrown("IndexOutOfBoundsException", "isNoticed(4)", "isNoticed(-1)");
        int[] days = {0, 3, 7, 12};
        for (int market = 1; market < 4; market++) {
            new Run("noticed at market " + market).due("jar(2, 900) = 0; bag(5) = 0; fill(0, 0, 100) = 100")
                .due("go(" + market + ") = " + days[market] + "; thumb(" + (most[market] + 1) + ") = 0")
                .refused("sell(0)", 10, most[market])
                .due("thumb(" + most[market] + ") = " + (most[market] + 1) + "; account(10) = 0").scale.sell(0);
        }
    }

    private static void shares() {
        new Run("honest share").due("jar(2, 900) = 0; bag(12) = 0; fill(0, 0, 113) = 113; thumb(3) = 0; sell(0) = 92")
            .due("honestShare() = " + 113.0 / 116.0 + "; thumb(0) = 3; fill(0, 0, 113) = 113; sell(0) = 90")
            .due("honestShare() = " + 226.0 / 229.0 + "; undo() = 7")
            .due("honestShare() = " + 113.0 / 116.0);
        new Run("an honest share above one").due("jar(2, 900) = 0; bag(5) = 0; fill(0, 0, 400) = 400; sell(0) = 306")
            .due("honestShare() = " + 400.0 / 383.0);
    }
}
