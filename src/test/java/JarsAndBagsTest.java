/** Promises 2 to 6, 14, 15 and 27: jars and bags, what fills and empties them, and their order. */
public final class JarsAndBagsTest {
    public static void main(String[] args) {
        jars();
        bags();
        filling();
        fillingRefused();
        emptying();
        emptyingRefused();
        beating();
        numbersOfBags();
        ranks();
        Run.end();
    }

    private static void jars() {
        new Run("jars")
            .refused("jar(-1, 0)", 1, 0).refused("jar(5, 0)", 1, 0)
            .refused("jar(0, -1)", 1, 0).refused("jar(0, 901)", 1, 0)
            .due("jar(0, 0) = 0; jar(4, 900) = 1; jar(3, 7) = 2; jar(3, 7) = 3; jar(1, 1) = 4; account(4) = 5")
            .due("jar(2, 899) = 5; account(4) = 6; account(6) = 1814")
            .refused("jar(0, 0)", 2, 6).refused("jar(5, 0)", 1, 0).refused("jar(0, 2147483647)", 1, 0)
            .due("jarOf(0, true) = 0; jarOf(0, false) = 0; jarOf(1, true) = 4; jarOf(1, false) = 900")
            .due("jarOf(5, true) = 2; jarOf(5, false) = 899; account(14) = 6")
            .thrown("IndexOutOfBoundsException", "jarOf(-1, true)", "jarOf(6, false)", "jarOf(-2147483648, true)");
        new Run("jars that are not there yet").due("jar(1, 1) = 0")
            .thrown("IndexOutOfBoundsException", "jarOf(1, true)", "jarOf(1, false)");
    }

    private static void bags() {
        new Run("bags")
            .refused("bag(4)", 1, 0).refused("bag(51)", 1, 0).refused("bag(-5)", 1, 0)
            .due("bag(5) = 0; bag(50) = 1; bag(6) = 2; bag(7) = 3; bag(8) = 4; account(5) = 5")
            .due("bag(9) = 5; account(5) = 6; account(14) = 6; account(7) = 0")
            .refused("bag(10)", 2, 6).refused("bag(4)", 1, 0)
            .due("bagOf(0, 0) = 5; bagOf(1, 0) = 50; bagOf(5, 0) = 9; days(2) = 12; bagOf(5, 1) = 2; go(3) = 14");
    }

    private static void filling() {
        new Run("filling")
            .due("jar(1, 900) = 0; jar(3, 500) = 1; jar(1, 5) = 2; bag(10) = 0; bag(11) = 1")
            .due("bagOf(0, 2) = -1; fill(0, 0, 1) = 1; bagOf(0, 2) = 1; bagOf(0, 3) = 1; jarOf(0, false) = 899")
            .due("fill(0, 0, 399) = 400; jarOf(0, false) = 500; bagOf(1, 3) = 0; account(14) = 7")
            .due("fill(1, 1, 400) = 400; bagOf(1, 2) = 3; jarOf(1, false) = 100; account(6) = 605; account(7) = 800");
        new Run("filling out of two jars of one spice")
            .due("jar(1, 9) = 0; jar(1, 5) = 1; bag(10) = 0; fill(0, 0, 9) = 9; fill(0, 1, 5) = 14")
            .due("jarOf(0, false) = 0; jarOf(0, true) = 1; jarOf(1, false) = 0");
    }

    private static void fillingRefused() {
        Run run = new Run("filling refused").refused("fill(0, 0, 1)", 3, 0).refused("fill(-3, 2, 0)", 3, -3)
            .due("bag(10) = 0").refused("fill(0, 0, 1)", 3, 0).refused("fill(0, 4, 0)", 3, 4)
            .due("jar(1, 900) = 0; jar(3, 500) = 1; jar(1, 20) = 2");
        run.refused("fill(1, 9, 1)", 3, 1).refused("fill(0, 3, 1)", 3, 3).refused("fill(0, -1, 0)", 3, -1)
            .refused("fill(0, 0, 0)", 1, 0).refused("fill(0, 0, -1)", 1, 0).refused("fill(0, 0, 401)", 1, 0)
            .refused("fill(0, 2, 21)", 5, 20).refused("fill(0, 2, 2147483647)", 1, 0)
            .due("fill(0, 0, 390) = 390")
            .refused("fill(0, 1, 0)", 1, 0).refused("fill(0, 1, 1)", 4, 1).refused("fill(0, 1, 400)", 4, 1)
            .refused("fill(0, 2, 21)", 5, 20).refused("fill(0, 2, 20)", 7, 10).refused("fill(0, 2, 11)", 7, 10)
            .due("fill(0, 2, 10) = 400").refused("fill(0, 2, 1)", 7, 0);
        new Run("one grain of another spice").due("jar(1, 900) = 0; jar(3, 500) = 1; bag(10) = 0; fill(0, 0, 1) = 1")
            .refused("fill(0, 1, 1)", 4, 1).refused("fill(0, 1, 501)", 1, 0);
    }

    private static void emptying() {
        new Run("emptying")
            .due("jar(1, 900) = 0; jar(1, 0) = 1; bag(10) = 0; fill(0, 0, 300) = 300; days(4) = 4")
            .due("empty(0, 1) = 300; bagOf(0, 3) = 0; bagOf(0, 2) = -1; bagOf(0, 1) = 4; bagOf(0, 0) = 10")
            .due("jarOf(1, false) = 300; jarOf(0, false) = 600; account(14) = 6")
            .due("fill(0, 1, 300) = 300; empty(0, 0) = 900; jarOf(0, false) = 900")
            .due("jar(2, 5) = 2; fill(0, 2, 5) = 5; bagOf(0, 2) = 2");
    }

    private static void emptyingRefused() {
        new Run("emptying refused").due("bag(10) = 0; bag(10) = 1")
            .refused("empty(2, 7)", 3, 2).refused("empty(0, 7)", 3, 7).refused("empty(-1, 0)", 3, -1)
            .due("jar(1, 900) = 0; jar(3, 0) = 1; jar(1, 700) = 2")
            .refused("empty(0, -1)", 3, -1).refused("empty(1, 1)", 6, 1).refused("empty(0, 0)", 6, 0)
            .due("fill(1, 0, 201) = 201").refused("empty(1, 1)", 4, 1).refused("empty(0, 1)", 6, 0)
            .refused("empty(1, 2)", 7, 200).due("fill(0, 2, 1) = 1; empty(1, 2) = 900")
            .refused("empty(0, 2)", 7, 0)
            .due("empty(0, 0) = 700");
        new Run("of another spice comes before too little room").due("jar(1, 900) = 0; jar(3, 900) = 1; bag(10) = 0")
            .due("fill(0, 0, 9) = 9").refused("empty(0, 1)", 4, 1);
    }

    private static void beating() {
        new Run("beating").refused("beat(0)", 3, 0)
            .due("bag(10) = 0; bag(10) = 1; days(7) = 14; beat(0) = 7; beat(0) = 0; bagOf(0, 1) = 0; bagOf(1, 1) = 7")
            .due("account(14) = 5").refused("beat(2)", 3, 2).refused("beat(-1)", 3, -1);
    }

    private static void numbersOfBags() {
        new Run("numbers of a bag")
            .due("jar(4, 900) = 0; bag(13) = 0; bag(14) = 1; fill(0, 0, 40) = 40; days(6) = 12; thumb(3) = 0")
            .due("bagOf(0, 0) = 13; bagOf(0, 1) = 6; bagOf(0, 2) = 4; bagOf(0, 3) = 40; bagOf(0, 4) = 62")
            .due("bagOf(0, 5) = 0; weigh(0) = 62; weigh(0) = 62; told(0) = 62; sell(0) = 34; bagOf(0, 5) = 3")
            .due("bagOf(0, 4) = 22; bagOf(0, 2) = -1; bagOf(1, 5) = 0; bagOf(1, 4) = 23; bagOf(1, 2) = -1")
            .thrown("IndexOutOfBoundsException", "bagOf(2, 0)", "bagOf(-1, 0)", "bagOf(2, 6)", "bagOf(-1, -1)")
            .thrown("IllegalArgumentException", "bagOf(0, -1)", "bagOf(1, 6)", "bagOf(0, 2147483647)");
    }

    private static void ranks() {
        new Run("ranks")
            .due("jar(4, 900) = 0; bag(20) = 0; bag(10) = 1; bag(20) = 2; bag(30) = 3; bag(10) = 4")
            .due("ranked(0) = 1; ranked(1) = 4; ranked(2) = 0; ranked(3) = 2; ranked(4) = 3")
            .due("fill(3, 0, 8) = 8; fill(0, 0, 9) = 9; fill(4, 0, 8) = 8")
            .due("ranked(0) = 0; ranked(1) = 4; ranked(2) = 3; ranked(3) = 1; ranked(4) = 2")
            .thrown("NoSuchElementException", "ranked(5)", "ranked(-1)", "ranked(2147483647)", "ranked(-2147483648)");
    }
}
