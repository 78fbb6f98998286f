/** A test for each sentence of the promises 1 to 13: a new object, and the calls that change it. */
final class SentencesOfChanges {
    private static final int LEAST = Integer.MIN_VALUE;
    private static final int MOST = Integer.MAX_VALUE;
    private static final String THROWS = "Throws UnsupportedOperationException if it is refused for the reason ";
    private static final String KEPT = "; the reason is kept";

    static void tests(Document document) {
        newObject(document);
        jar(document);
        bag(document);
        fill(document);
        empty(document);
        beat(document);
        thumb(document);
        weigh(document);
        sell(document);
        oath(document);
        go(document);
        seal(document);
        days(document);
    }

    private static void newObject(Document document) {
        document.part("Promise 1: A new object");
        Run run = document.says("Creates a caravan without jars and bags.").due("account(4) = 0; account(5) = 0")
            .due("account(6) = 0; account(7) = 0; account(14) = 0; account(15) = 0; faultPosition() = -1")
            .missingFor("beat(#)", 0, -1, MOST).missingFor("weigh(#)", 0, 5).missingFor("sell(#)", 0, 5)
            .refused("fill(0, 0, 1)", 3, 0).refused("empty(0, 0)", 3, 0);
        run.thrown("ArithmeticException", "meanDust()", "honestShare()")
            .thrown("NoSuchElementException", "ranked(0)", "oathUntil(0)")
            .thrown("IllegalStateException", "undo()", "restore()")
            .thrown("IndexOutOfBoundsException", "character(0)", "line(0)");
        document.again().thrown("NoSuchElementException", "reason(0)", "reason(1)", "reason(2)");
    }

    private static void jar(Document document) {
        document.part("Promise 2: jar");
        document.says("Adds a jar.").due("jar(3, 70) = 0; account(4) = 1; account(6) = 70; account(14) = 1")
            .due("jarOf(0, true) = 3; jarOf(0, false) = 70").due("jar(3, 71) = 1; account(4) = 2; account(6) = 141")
            .due("jarOf(0, false) = 70; jarOf(1, false) = 71");
        document.says("spice: the spice").due("jar(0, 1) = 0; jar(4, 1) = 1; jarOf(0, true) = 0; jarOf(1, true) = 4")
            .refusedFor("jar(#, 1)", 1, 0, -1, 5, LEAST, MOST);
        document.says("grains: the grains, 0 to 900").due("jar(1, 0) = 0; jar(1, 900) = 1; jarOf(0, false) = 0")
            .due("jarOf(1, false) = 900").refusedFor("jar(1, #)", 1, 0, -1, 901, LEAST, MOST);
        document.says("Returns its number.").due("jar(1, 1) = 0; jar(1, 1) = 1; jar(1, 1) = 2; jar(1, 1) = 3; undo() = 3")
            .due("jar(1, 1) = 3; jar(1, 1) = 4").due("jar(1, 1) = 5").refused("jar(1, 1)", 2, 6)
            .due("undo() = 5; undo() = 4; jar(1, 1) = 4");
        document.says(THROWS + "1 or 2" + KEPT).refused("jar(5, 0)", 1, 0).refused("jar(0, 901)", 1, 0)
            .times(6, "days(1) = 0").reasonIs(1, 0, 0).due("jar(1, 1) = 0; jar(1, 1) = 1; jar(1, 1) = 2; jar(1, 1) = 3")
            .due("jar(1, 1) = 4; jar(1, 1) = 5").reasonIs(1, 0, 0).refused("jar(0, 0)", 2, 6).due("days(1) = 0")
            .reasonIs(2, 6, 0).refused("jar(-1, -1)", 1, 0);
    }

    private static void bag(Document document) {
        document.part("Promise 3: bag");
        document.says("Adds an empty bag.").due("bag(33) = 0; account(5) = 1; account(7) = 0; bagOf(0, 0) = 33")
            .due("bagOf(0, 1) = 0; bagOf(0, 2) = -1").due("bagOf(0, 3) = 0; bagOf(0, 4) = 33; bagOf(0, 5) = 0")
            .due("account(14) = 1; bag(34) = 1; bagOf(0, 0) = 33; bagOf(1, 0) = 34");
        document.again().due("jar(2, 99) = 0; bag(30) = 0; fill(0, 0, 9) = 9; days(9) = 9; weigh(0) = 38; undo() = 4")
            .due("undo() = 3; undo() = 2; undo() = 1").due("bag(20) = 0; bagOf(0, 0) = 20; bagOf(0, 1) = 0")
            .due("bagOf(0, 2) = -1; bagOf(0, 3) = 0; bagOf(0, 4) = 20; bagOf(0, 5) = 0");
        document.says("tare: its tare").due("bag(5) = 0; bag(50) = 1; bagOf(0, 0) = 5; bagOf(1, 0) = 50")
            .refusedFor("bag(#)", 1, 0, 4, 51, 0, LEAST, MOST);
        document.says("Returns its number.").due("bag(5) = 0; bag(5) = 1; bag(5) = 2; bag(5) = 3; undo() = 3; bag(5) = 3")
            .due("bag(5) = 4; bag(5) = 5").refused("bag(5)", 2, 6).due("undo() = 5; undo() = 4; bag(5) = 4");
        document.says(THROWS + "1 or 2" + KEPT).refused("bag(4)", 1, 0).refused("bag(51)", 1, 0).due("bag(5) = 0")
            .due("bag(5) = 1; bag(5) = 2; bag(5) = 3; bag(5) = 4; bag(5) = 5").reasonIs(1, 0, 0).refused("bag(5)", 2, 6)
            .due("days(1) = 6").reasonIs(2, 6, 0).refused("bag(51)", 1, 0);
    }

    private static void fill(Document document) {
        document.part("Promise 4: fill");
        document.says("Fills grains out of a jar into a bag.").due("jar(3, 900) = 0; jar(3, 40) = 1; bag(5) = 0; bag(5) = 1")
            .due("fill(1, 1, 40) = 40; jarOf(1, false) = 0; jarOf(0, false) = 900").due("bagOf(1, 3) = 40; bagOf(1, 2) = 3")
            .due("bagOf(0, 3) = 0; bagOf(0, 2) = -1; fill(1, 0, 2) = 42; jarOf(0, false) = 898; bagOf(1, 2) = 3")
            .due("account(6) = 898; account(7) = 42; account(14) = 6");
        document.says("bag: the bag").due("jar(3, 900) = 0; bag(5) = 0; bag(5) = 1; fill(1, 0, 9) = 9; bagOf(0, 3) = 0")
            .due("fill(0, 0, 8) = 8; bagOf(1, 3) = 9").missingFor("fill(#, 0, 1)", -1, 2, LEAST, MOST);
        document.says("jar: the jar").due("jar(3, 90) = 0; jar(3, 80) = 1; bag(5) = 0; fill(0, 1, 9) = 9")
            .due("jarOf(0, false) = 90; jarOf(1, false) = 71").missingFor("fill(0, #, 1)", -1, 2, LEAST, MOST);
        document.says("grains: how many, 1 to 400").due("jar(3, 900) = 0; bag(5) = 0; bag(5) = 1; fill(0, 0, 1) = 1")
            .due("fill(1, 0, 400) = 400").refusedFor("fill(0, 0, #)", 1, 0, 0, -1, 401, LEAST, MOST);
        document.says("Returns how many grains are in the bag then.").due("jar(3, 900) = 0; bag(5) = 0; fill(0, 0, 1) = 1")
            .due("fill(0, 0, 1) = 2").due("fill(0, 0, 397) = 399; fill(0, 0, 1) = 400; sell(0) = 153; fill(0, 0, 7) = 7");
        document.says(THROWS + "3, 1, 4, if the bag is not empty, 5 or 7" + KEPT).due("jar(3, 900) = 0; jar(1, 12) = 1")
            .due("jar(3, 12) = 2; bag(5) = 0; bag(6) = 1").refused("fill(2, 3, 0)", 3, 2).refused("fill(1, 3, 0)", 3, 3)
            .refused("fill(1, 0, 0)", 1, 0).due("fill(1, 0, 9) = 9; empty(1, 0) = 900; fill(1, 1, 1) = 1")
            .due("fill(0, 0, 390) = 390").reasonIs(1, 0, 0).refused("fill(0, 1, 0)", 1, 0).refused("fill(0, 1, 12)", 4, 3)
            .refused("fill(0, 2, 13)", 5, 12).refused("fill(0, 2, 11)", 7, 10).due("fill(0, 2, 10) = 400").reasonIs(7, 10, 0)
            .refused("fill(0, 2, 3)", 5, 2).refused("fill(0, 2, 2)", 7, 0);
    }

    private static void empty(Document document) {
        document.part("Promise 5: empty");
        document.says("Empties a bag into a jar.").due("jar(3, 900) = 0; jar(3, 40) = 1; bag(5) = 0; bag(5) = 1")
            .due("fill(1, 0, 300) = 300; fill(0, 0, 5) = 5; days(2) = 4; empty(1, 1) = 340").due("bagOf(1, 3) = 0")
            .due("bagOf(1, 2) = -1; bagOf(1, 1) = 2; bagOf(1, 0) = 5; bagOf(0, 3) = 5; jarOf(1, false) = 340")
            .due("jarOf(0, false) = 595").due("account(14) = 8; account(6) = 935; account(7) = 5");
        document.says("bag: the bag").due("jar(3, 9) = 0; bag(5) = 0; bag(5) = 1; fill(0, 0, 1) = 1; fill(1, 0, 2) = 2")
            .due("empty(1, 0) = 8; empty(0, 0) = 9").missingFor("empty(#, 0)", -1, 2, LEAST, MOST);
        document.says("jar: the jar").due("jar(3, 9) = 0; jar(3, 0) = 1; bag(5) = 0; fill(0, 0, 9) = 9; empty(0, 1) = 9")
            .due("jarOf(0, false) = 0").missingFor("empty(0, #)", -1, 2, LEAST, MOST);
        document.says("Returns how many grains are in the jar then.").due("jar(3, 900) = 0; jar(3, 899) = 1; jar(3, 0) = 2")
            .due("bag(5) = 0; fill(0, 0, 1) = 1; empty(0, 1) = 900; fill(0, 0, 400) = 400; empty(0, 2) = 400");
        document.says(THROWS + "3, 6, 4 or 7" + KEPT).due("jar(3, 900) = 0; jar(1, 900) = 1; jar(3, 800) = 2; bag(5) = 0")
            .due("bag(6) = 1").refused("empty(2, 3)", 3, 2).refused("empty(1, 3)", 3, 3).refused("empty(1, 1)", 6, 1)
            .refused("empty(0, 0)", 6, 0).due("fill(0, 0, 101) = 101").reasonIs(6, 0, 0).refused("empty(0, 1)", 4, 3)
            .refused("empty(0, 2)", 7, 100).due("fill(1, 0, 100) = 100; empty(1, 2) = 900").reasonIs(7, 100, 0)
            .refused("empty(0, 2)", 7, 0);
    }

    private static void beat(Document document) {
        document.part("Promise 6: beat");
        document.says("Beats the dust out of a bag.").due("jar(3, 9) = 0; bag(5) = 0; bag(5) = 1; fill(0, 0, 9) = 9")
            .due("days(7) = 14; beat(0) = 7").due("bagOf(0, 1) = 0; bagOf(1, 1) = 7; bagOf(0, 3) = 9; bagOf(0, 0) = 5")
            .due("account(14) = 6; days(1) = 9");
        document.says("bag: the bag").due("bag(5) = 0; bag(5) = 1; days(1) = 2; beat(1) = 1; bagOf(0, 1) = 1")
            .missingFor("beat(#)", -1, 2, LEAST, MOST);
        document.says("Returns the dust before.").due("bag(5) = 0; beat(0) = 0; days(1) = 1; beat(0) = 1; beat(0) = 0")
            .due("days(21) = 20; beat(0) = 20; account(14) = 7");
        document.says(THROWS + "3" + KEPT).due("bag(5) = 0; days(1) = 1").refused("beat(1)", 3, 1).due("beat(0) = 1")
            .reasonIs(3, 1, 0).refused("beat(-1)", 3, -1);
    }

    private static void thumb(Document document) {
        document.part("Promise 7: thumb");
        document.says("Sets the thumb.").due("bag(5) = 0; thumb(7) = 0; account(3) = 7; bagOf(0, 4) = 12; account(14) = 2");
        document.says("thumb: the thumb").due("thumb(0) = 0; thumb(30) = 0; account(3) = 30")
            .refusedFor("thumb(#)", 1, 0, -1, 31, LEAST, MOST);
        document.says("Returns the thumb before.").due("thumb(30) = 0; thumb(30) = 30; thumb(1) = 30; thumb(0) = 1")
            .due("thumb(0) = 0; account(14) = 5");
        document.says(THROWS + "1 or 8" + KEPT).refused("thumb(31)", 1, 0).refused("thumb(-1)", 1, 0).due("oath() = 19")
            .reasonIs(1, 0, 0).refused("thumb(31)", 1, 0).refused("thumb(30)", 8, 20).refused("thumb(0)", 8, 20)
            .due("days(19) = 0").refused("thumb(0)", 8, 1).due("days(1) = 0; thumb(2) = 0").reasonIs(8, 1, 0);
    }

    private static void weigh(Document document) {
        document.part("Promise 8: weigh");
        document.says("Weighs a bag.").due("bag(5) = 0; bag(8) = 1; weigh(1) = 8; bagOf(1, 5) = 1; bagOf(0, 5) = 0")
            .due("weightOf(0, 2) = 1; weightOf(1, 2) = 1").due("weightOf(2, 2) = 1; weightOf(3, 2) = 0; account(14) = 3")
            .due("account(2) = 20; account(9) = 0; account(10) = 0");
        document.says("bag: the bag").due("bag(5) = 0; bag(6) = 1; weigh(0) = 5; weigh(1) = 6")
            .missingFor("weigh(#)", -1, 2, LEAST, MOST);
        document.says("Returns what the scale tells.").due("jar(0, 900) = 0; bag(5) = 0; weigh(0) = 5; bag(9) = 1")
            .due("weigh(1) = 8; bag(50) = 2; thumb(30) = 0").due("fill(2, 0, 400) = 400; weigh(2) = 388; weigh(0) = 35")
            .due("days(20) = 60; weigh(2) = 388; weigh(0) = 55");
        document.says(THROWS + "3" + KEPT).refused("weigh(0)", 3, 0).due("bag(5) = 0; weigh(0) = 5").reasonIs(3, 0, 0)
            .refused("weigh(1)", 3, 1).refused("weigh(-1)", 3, -1);
    }

    private static void sell(Document document) {
        document.part("Promise 9: sell");
        document.says("Sells a bag.").due("jar(2, 900) = 0; bag(12) = 0; bag(12) = 1; fill(1, 0, 113) = 113")
            .due("fill(0, 0, 5) = 5; sell(1) = 90; account(2) = 110").due("bagOf(1, 3) = 0; bagOf(0, 3) = 5")
            .due("account(8) = 113; account(9) = 113; account(10) = 1; account(11) = 90; bagOf(1, 5) = 1")
            .due("account(6) = 782; account(7) = 5; account(14) = 6; weightOf(6, 2) = 1");
        document.says("bag: the bag").due("jar(2, 9) = 0; bag(5) = 0; bag(5) = 1; fill(0, 0, 2) = 2; fill(1, 0, 5) = 5")
            .due("sell(1) = 4; sell(0) = 1").missingFor("sell(#)", -1, 2, LEAST, MOST);
        document.says("Returns the coins that are got.").due("jar(2, 900) = 0; jar(0, 900) = 1; bag(5) = 0")
            .due("fill(0, 0, 1) = 1; sell(0) = 0; fill(0, 0, 400) = 400").due("sell(0) = 306; account(2) = 326; oath() = 19")
            .due("fill(0, 0, 400) = 400; sell(0) = 336; fill(0, 1, 1) = 1; sell(0) = 0");
        document.says(THROWS + "3, 6, 10 or 11, if it is 0 or less" + KEPT).due("jar(2, 900) = 0; bag(8) = 0; bag(45) = 1")
            .due("bag(7) = 2; thumb(5) = 0").refused("sell(3)", 3, 3).refused("sell(0)", 6, 0).due("fill(0, 0, 1) = 1")
            .due("fill(1, 0, 1) = 1; fill(2, 0, 1) = 1").reasonIs(6, 0, 0).refused("sell(0)", 10, 4).due("thumb(0) = 5")
            .refused("sell(0)", 11, 8).refused("sell(1)", 11, 38).due("sell(2) = 0").reasonIs(11, 38, 0)
            .refused("sell(2)", 6, 2).due("thumb(4) = 0; sell(0) = 4").reasonIs(6, 2, 0);
    }

    private static void oath(Document document) {
        document.part("Promise 10: oath");
        document.says("Swears an oath.").due("go(1) = 3; oath() = 22; account(12) = 1; oathUntil(1) = 22; account(14) = 2")
            .due("account(0) = 3; account(2) = 20");
        document.says("Returns the last day in which it is in force.").due("oath() = 19; days(19) = 0; oathUntil(0) = 19")
            .due("days(1) = 0; account(12) = 0; oath() = 39").due("go(3) = 32; oath() = 51; days(60) = 0; oath() = 111");
        document.says(THROWS + "8 or 9" + KEPT).due("thumb(30) = 0").refused("oath()", 9, 30)
            .due("thumb(0) = 30; oath() = 19").reasonIs(9, 30, 0).refused("oath()", 8, 20).due("days(19) = 0")
            .refused("oath()", 8, 1).due("days(1) = 0; thumb(1) = 0").refused("oath()", 9, 1)
            .due("thumb(0) = 1; oath() = 39").reasonIs(9, 1, 0);
    }

    private static void go(Document document) {
        document.part("Promise 11: go");
        document.says("Goes to a market.").due("bag(5) = 0; go(2) = 7; account(1) = 2; account(0) = 7; bagOf(0, 1) = 7")
            .due("account(14) = 2; account(2) = 20");
        document.says("market: the market").due("go(3) = 12; go(0) = 24; go(1) = 27; go(2) = 31")
            .missingFor("go(#)", -1, 4, LEAST, MOST);
        document.says("Returns the day then.").due("days(60) = 0; go(1) = 63; go(2) = 67; go(3) = 72; days(1) = 0")
            .due("go(0) = 85");
        document.says(THROWS + "3 or 13" + KEPT).refused("go(4)", 3, 4).refused("go(0)", 13, 0).due("go(3) = 12")
            .reasonIs(13, 0, 0).refused("go(3)", 13, 3).refused("go(-1)", 3, -1);
    }

    private static void seal(Document document) {
        document.part("Promise 12: seal");
        document.says("Seals a weight for 2 coins.").due("bag(10) = 0; bag(20) = 1").times(8, "weigh(0) = 10")
            .due("weigh(1) = 20; account(2) = 20; seal(3) = 1; account(2) = 18").due("weightOf(3, 1) = 0")
            .due("weightOf(3, 2) = 0; weightOf(3, 3) = 8; weightOf(4, 2) = 1; account(14) = 8; account(13) = 0")
            .due("account(11) = 0");
        document.says("weight: the weight").due("seal(0) = 0; seal(7) = 0; account(2) = 16")
            .missingFor("seal(#)", -1, 8, LEAST, MOST);
        document.says("Returns by how much it was short.").due("bag(20) = 0; seal(4) = 0").times(8, "weigh(0) = 20")
            .due("seal(4) = 1; seal(4) = 0").times(8, "weigh(0) = 20").times(8, "weigh(0) = 21").times(30, "weigh(0) = 22")
            .due("seal(4) = 2; seal(4) = 0; seal(0) = 0");
        document.says(THROWS + "3 or 12" + KEPT).refused("seal(8)", 3, 8).times(10, "seal(0) = 0").reasonIs(3, 8, 0)
            .refused("seal(-1)", 3, -1).refused("seal(0)", 12, 2).due("jar(2, 9) = 0; bag(5) = 0; fill(0, 0, 2) = 2")
            .due("sell(0) = 1").reasonIs(12, 2, 0).refused("seal(7)", 12, 1).due("fill(0, 0, 2) = 2; sell(0) = 1")
            .due("seal(7) = 0; account(2) = 0");
    }

    private static void days(Document document) {
        document.part("Promise 13: days");
        document.says("Lets days go by.").due("bag(5) = 0; days(9) = 9; account(0) = 9; bagOf(0, 1) = 9; account(1) = 0")
            .due("account(14) = 2");
        document.says("days: how many, 1 to 60").due("days(1) = 0; account(0) = 1; days(60) = 0; account(0) = 61")
            .refusedFor("days(#)", 1, 0, 0, -1, 61, LEAST, MOST);
        document.says("Returns the dust of all bags together then.").due("days(5) = 0; bag(5) = 0; days(1) = 1; bag(5) = 1")
            .due("days(19) = 39; days(1) = 40; days(60) = 40").due("bag(5) = 2; bag(5) = 3; bag(5) = 4; bag(5) = 5")
            .due("days(1) = 44; days(20) = 120; beat(0) = 20; days(1) = 101");
        document.says(THROWS + "1" + KEPT).refused("days(0)", 1, 0).refused("days(61)", 1, 0).due("days(60) = 0")
            .reasonIs(1, 0, 0).refused("weigh(9)", 3, 9).refused("days(-1)", 1, 0);
    }
}
