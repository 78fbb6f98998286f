/** A test for each sentence of the promises 14 to 27 and 34 to 36: the calls that only tell. */
final class SentencesOfQueries {
    private static final int LEAST = Integer.MIN_VALUE;
    private static final int MOST = Integer.MAX_VALUE;
    private static final String INDEX = "IndexOutOfBoundsException";
    private static final String ARGUMENT = "IllegalArgumentException";
    private static final String ELEMENT = "NoSuchElementException";
    private static final String THROWS_INDEX = "Throws IndexOutOfBoundsException if there is no such ";
    private static final String THROWS_ARGUMENT = "Throws IllegalArgumentException if ";
    private static final String THROWS_ELEMENT = "Throws NoSuchElementException if ";
    private static final String SHORT_HUNDRED = "jar(4, 900) = 0; bag(20) = 0; bag(5) = 1; fill(0, 0, 80) = 80";

    static void tests(Document document) {
        jarOf(document);
        bagOf(document);
        weightOf(document);
        told(document);
        toldAgain(document);
        onPan(document);
        rest(document);
        honest(document);
        pays(document);
        wouldGet(document);
        bestMarket(document);
        oathUntil(document);
        isNoticed(document);
        ranked(document);
        meanDust(document);
        honestShare(document);
        accounts(document);
    }

    private static void jarOf(Document document) {
        document.part("Promise 14: jarOf");
        document.says("Returns a number of a jar.").due("jar(3, 70) = 0; bag(5) = 0; fill(0, 0, 9) = 9; jarOf(0, true) = 3")
            .due("jarOf(0, false) = 61; account(14) = 3");
        document.says("jar: the jar").due("jar(4, 70) = 0; jar(2, 80) = 1; jarOf(0, true) = 4; jarOf(1, true) = 2")
            .due("jarOf(0, false) = 70; jarOf(1, false) = 80");
        document.says("isSpice: true for its spice, false for its grains").due("jar(0, 900) = 0; jar(4, 0) = 1")
            .due("jarOf(0, true) = 0; jarOf(0, false) = 900").due("jarOf(1, true) = 4; jarOf(1, false) = 0");
        document.says("Returns the number.").due("jar(1, 2) = 0; jarOf(0, true) = 1; jarOf(0, false) = 2");
        document.says(THROWS_INDEX + "jar").thrownFor(INDEX, "jarOf(#, true)", 0, -1, 5, 6, LEAST, MOST)
            .due("jar(1, 2) = 0; jar(1, 2) = 1").thrownFor(INDEX, "jarOf(#, false)", -1, 2, 6, LEAST, MOST).due("undo() = 1")
            .thrownFor(INDEX, "jarOf(#, true)", 1);
    }

    private static void bagOf(Document document) {
        String filled = "jar(4, 900) = 0; bag(13) = 0; bag(14) = 1; fill(0, 0, 40) = 40; days(6) = 12; thumb(3) = 0";
        document.part("Promise 15: bagOf");
        document.says("Returns a number of a bag.").due(filled + "; bagOf(0, 0) = 13; bagOf(1, 0) = 14; account(14) = 6");
        document.says("bag: the bag")
            .due(filled + "; bagOf(0, 3) = 40; bagOf(1, 3) = 0; bagOf(0, 4) = 62; bagOf(1, 4) = 23");
        document.says("what: 0 for its tare").due("bag(5) = 0; bag(50) = 1; bagOf(0, 0) = 5; bagOf(1, 0) = 50; days(1) = 2")
            .due("bagOf(0, 0) = 5");
        document.says(", 1 for its dust").due("bag(5) = 0; bagOf(0, 1) = 0; days(60) = 20; bagOf(0, 1) = 20; beat(0) = 20")
            .due("bagOf(0, 1) = 0");
        document.says(", 2 for its spice, or -1").due("jar(0, 9) = 0; jar(4, 9) = 1; bag(5) = 0; bagOf(0, 2) = -1")
            .due("fill(0, 0, 9) = 9; bagOf(0, 2) = 0; empty(0, 0) = 9").due("bagOf(0, 2) = -1; fill(0, 1, 9) = 9")
            .due("bagOf(0, 2) = 4; sell(0) = 5; bagOf(0, 2) = -1");
        document.says(", 3 for its grains").due("jar(0, 900) = 0; bag(5) = 0; bagOf(0, 3) = 0; fill(0, 0, 1) = 1")
            .due("bagOf(0, 3) = 1; fill(0, 0, 399) = 400; bagOf(0, 3) = 400");
        document.says(", 4 for its load").due("jar(0, 900) = 0; bag(50) = 0; bagOf(0, 4) = 50; fill(0, 0, 400) = 400")
            .due("bagOf(0, 4) = 450; days(60) = 20; bagOf(0, 4) = 470").due("thumb(30) = 0; bagOf(0, 4) = 500");
        document.says(", 5 for how often it was weighed so far, sold ones included").due("jar(0, 900) = 0; bag(5) = 0")
            .due("bag(6) = 1; bagOf(0, 5) = 0; weigh(0) = 5").due("told(0) = 5; line(0) = 3; honest(0) = 5; bagOf(0, 5) = 1")
            .due("fill(0, 0, 5) = 5; sell(0) = 1; bagOf(0, 5) = 2; bagOf(1, 5) = 0").refused("sell(0)", 6, 0)
            .due("bagOf(0, 5) = 2; undo() = 5; bagOf(0, 5) = 1");
        document.says("Returns the number.")
            .due(filled + "; weigh(0) = 62; bagOf(0, 0) = 13; bagOf(0, 1) = 6; bagOf(0, 2) = 4; bagOf(0, 3) = 40")
            .due("bagOf(0, 4) = 62; bagOf(0, 5) = 1");
        document.says(THROWS_INDEX + "bag").thrownFor(INDEX, "bagOf(#, 0)", 0, -1, 6, LEAST, MOST)
            .due("bag(5) = 0; bag(6) = 1").thrownFor(INDEX, "bagOf(#, 6)", -1, 2, LEAST, MOST);
        document.says(THROWS_ARGUMENT + "what is not from 0 to 5").due("bag(5) = 0")
            .thrownFor(ARGUMENT, "bagOf(0, #)", -1, 6, LEAST, MOST).due("bagOf(0, 0) = 5; bagOf(0, 5) = 0");
    }

    private static void weightOf(Document document) {
        document.part("Promise 16: weightOf");
        document.says("Returns a number of a weight.").due("weightOf(0, 0) = 1; weightOf(7, 0) = 200; account(14) = 0");
        document.says("weight: the weight").due("bag(7) = 0; weigh(0) = 7; weightOf(0, 2) = 0; weightOf(1, 2) = 1")
            .due("weightOf(2, 2) = 1; weightOf(3, 2) = 0");
        document.says("what: 0 for what it weighs as if it was not short").due(SHORT_HUNDRED).times(8, "weigh(0) = 100")
            .due("weightOf(6, 1) = 1; weightOf(6, 0) = 100; weightOf(0, 0) = 1; weightOf(1, 0) = 2; weightOf(2, 0) = 5")
            .due("weightOf(3, 0) = 10").due("weightOf(4, 0) = 20; weightOf(5, 0) = 50; weightOf(7, 0) = 200");
        document.says(", 1 for by how much it is short").due(SHORT_HUNDRED + "; weightOf(6, 1) = 0")
            .times(7, "weigh(0) = 100").due("weightOf(6, 1) = 0; weigh(0) = 100; weightOf(6, 1) = 1")
            .times(8, "weigh(0) = 101").due("weightOf(6, 1) = 2; weightOf(7, 1) = 0");
        document.says(", 2 for how often it was used since it was sealed").due("bag(10) = 0; weightOf(3, 2) = 0")
            .times(8, "weigh(0) = 10").due("weightOf(3, 2) = 8; weigh(0) = 11; weightOf(3, 2) = 9; seal(3) = 1")
            .due("weightOf(3, 2) = 0; weigh(0) = 10; weightOf(3, 2) = 1")
            .due("told(0) = 10; line(0) = 5; weightOf(3, 2) = 1");
        document.says(", 3 for after how many uses more it is shorter, or -1 if it will not be").due("bag(20) = 0")
            .due("weightOf(4, 3) = 8; weigh(0) = 20; weightOf(4, 3) = 7").times(6, "weigh(0) = 20")
            .due("weightOf(4, 3) = 1; weigh(0) = 20; weightOf(4, 3) = 8").times(7, "weigh(0) = 21")
            .due("weightOf(4, 3) = 1; weigh(0) = 21; weightOf(4, 3) = -1; weigh(0) = 22; weightOf(4, 3) = -1; seal(4) = 2")
            .due("weightOf(4, 3) = 8").due("weightOf(0, 3) = -1; weightOf(1, 3) = -1; weightOf(2, 3) = -1")
            .due("weightOf(3, 3) = 8; weightOf(7, 3) = 8");
        document.says("Returns the number.").due("weightOf(5, 0) = 50; weightOf(5, 1) = 0; weightOf(5, 2) = 0")
            .due("weightOf(5, 3) = 8");
        document.says(THROWS_INDEX + "weight").thrownFor(INDEX, "weightOf(#, 0)", -1, 8, LEAST, MOST)
            .thrownFor(INDEX, "weightOf(#, 4)", -1, 8);
        document.says(THROWS_ARGUMENT + "what is not from 0 to 3").thrownFor(ARGUMENT, "weightOf(0, #)", -1, 4, LEAST, MOST)
            .thrownFor(ARGUMENT, "weightOf(7, #)", -1, 4);
    }

    private static void noSuchBag(Run run, String call) {
        run.thrownFor(INDEX, call, 0, -1, 6, LEAST, MOST).due("bag(5) = 0; bag(6) = 1")
            .thrownFor(INDEX, call, -1, 2, LEAST, MOST).due("undo() = 1").thrownFor(INDEX, call, 1);
    }

    private static void told(Document document) {
        document.part("Promise 17: told");
        document.says("Returns what the scale would tell for a bag now.")
            .due(SHORT_HUNDRED + "; told(0) = 100; told(0) = 100; weightOf(6, 2) = 0; bagOf(0, 5) = 0").due("thumb(1) = 0")
            .due("told(0) = 101; thumb(0) = 1; days(1) = 2; told(0) = 101; beat(0) = 1").times(8, "weigh(0) = 100")
            .due("told(0) = 101; account(14) = 8; told(1) = 6");
        document.says("bag: the bag").due("bag(5) = 0; bag(50) = 1; told(0) = 5; told(1) = 50");
        document.says("Returns what it would tell.").due("jar(0, 900) = 0; bag(5) = 0; bag(50) = 1; fill(1, 0, 337) = 337")
            .due("told(0) = 5; told(1) = 387; fill(1, 0, 1) = 338").due("told(1) = 388; fill(1, 0, 1) = 339; told(1) = 388")
            .due("fill(1, 0, 61) = 400; thumb(30) = 0; days(60) = 40; told(1) = 388; told(0) = 55");
        noSuchBag(document.says(THROWS_INDEX + "bag"), "told(#)");
    }

    private static void toldAgain(Document document) {
        document.part("Promise 18: toldAgain");
        document.says("Returns the same by a second way: the load less the rest, and by how much all weights on the pan are short.")
            .due(SHORT_HUNDRED + "; toldAgain(0) = 100; toldAgain(1) = 5").times(8, "weigh(0) = 100")
            .due("toldAgain(0) = 101; toldAgain(1) = 5").times(8, "weigh(0) = 101").due("weightOf(6, 1) = 2")
            .due("bagOf(0, 4) = 100; rest(0) = 0; toldAgain(0) = 102; thumb(5) = 0; toldAgain(0) = 107; rest(0) = 0")
            .due("thumb(6) = 5; rest(0) = 0; toldAgain(0) = 108; thumb(12) = 6; toldAgain(0) = 113; rest(0) = 1")
            .due("told(0) = 113");
        document.says("bag: the bag").due("bag(9) = 0; bag(50) = 1; toldAgain(0) = 8; toldAgain(1) = 50");
        document.says("Returns what it would tell.").due("jar(0, 900) = 0; bag(5) = 0; bag(50) = 1; fill(1, 0, 400) = 400")
            .due("toldAgain(0) = 5; toldAgain(1) = 388").due("thumb(30) = 0; days(60) = 40; toldAgain(1) = 388")
            .due("weigh(1) = 388; weigh(1) = 388").times(6, "weigh(1) = 388").due("rest(1) = 117; toldAgain(1) = 388");
        noSuchBag(document.says(THROWS_INDEX + "bag"), "toldAgain(#)");
    }

    private static void onPan(Document document) {
        document.part("Promise 19: onPan");
        document.says("Returns which weights would lie on the pan for a bag now.")
            .due(SHORT_HUNDRED + "; onPan(0) = 64; thumb(9) = 0; onPan(0) = 71; thumb(0) = 9").times(8, "weigh(0) = 100")
            .due("onPan(0) = 65; weightOf(6, 2) = 8; bagOf(0, 5) = 8; account(14) = 8");
        document.says("bag: the bag").due("bag(5) = 0; bag(50) = 1; onPan(0) = 4; onPan(1) = 32");
        document.says("Returns them as bits: bit k for the weight k.").due("jar(0, 900) = 0; bag(5) = 0; onPan(0) = 4")
            .due("fill(0, 0, 1) = 1; onPan(0) = 5; fill(0, 0, 1) = 2; onPan(0) = 6").due("fill(0, 0, 3) = 5; onPan(0) = 8")
            .due("fill(0, 0, 10) = 15; onPan(0) = 16; fill(0, 0, 30) = 45; onPan(0) = 32; fill(0, 0, 50) = 95")
            .due("onPan(0) = 64").due("fill(0, 0, 100) = 195; onPan(0) = 128; fill(0, 0, 187) = 382; onPan(0) = 254")
            .due("fill(0, 0, 1) = 383; onPan(0) = 255; thumb(30) = 0; onPan(0) = 255");
        noSuchBag(document.says(THROWS_INDEX + "bag"), "onPan(#)");
    }

    private static void rest(Document document) {
        document.part("Promise 20: rest");
        document.says("Returns the rest for a bag now.").due("bag(9) = 0; bag(10) = 1; rest(0) = 1; rest(1) = 0")
            .due("thumb(1) = 0; rest(0) = 0").times(8, "weigh(0) = 10").due("weightOf(3, 1) = 1; rest(0) = 0; told(0) = 11")
            .due("thumb(0) = 1; rest(0) = 0; onPan(0) = 8; account(14) = 8");
        document.says("bag: the bag").due("bag(9) = 0; bag(49) = 1; rest(0) = 1; rest(1) = 11");
        document.says("Returns the rest.").due("jar(0, 900) = 0; bag(5) = 0; bag(50) = 1; rest(0) = 0")
            .due("fill(1, 0, 338) = 338; rest(1) = 0; fill(1, 0, 1) = 339; rest(1) = 1").due("fill(1, 0, 61) = 400")
            .due("rest(1) = 62; days(20) = 40; thumb(30) = 0; rest(1) = 112; rest(0) = 0");
        noSuchBag(document.says(THROWS_INDEX + "bag"), "rest(#)");
    }

    private static void honest(Document document) {
        document.part("Promise 21: honest");
        document.says("Returns what the scale would tell for a bag now without the thumb and without its dust.")
            .due(SHORT_HUNDRED).due("thumb(30) = 0; days(20) = 40; told(0) = 150; honest(0) = 100; honest(1) = 5")
            .due("beat(0) = 20; thumb(0) = 30; account(14) = 8")
            .times(8, "weigh(0) = 100").due("honest(0) = 101; thumb(3) = 0; told(0) = 103; honest(0) = 101");
        document.says("bag: the bag").due("bag(9) = 0; bag(50) = 1; honest(0) = 8; honest(1) = 50");
        document.says("Returns what it would tell.").due("jar(0, 900) = 0; bag(5) = 0; bag(50) = 1; fill(1, 0, 400) = 400")
            .due("days(20) = 40; thumb(30) = 0; honest(0) = 5; honest(1) = 388");
        noSuchBag(document.says(THROWS_INDEX + "bag"), "honest(#)");
    }

    private static void pays(Document document) {
        document.part("Promise 22: pays");
        document.says("Returns what a market pays for 10 grains of a spice.").due("pays(0, 1) = 5; jar(1, 900) = 0")
            .due("bag(5) = 0; fill(0, 0, 10) = 10; sell(0) = 5; pays(0, 1) = 5");
        document.says("market: the market").due("pays(0, 0) = 2; pays(1, 0) = 7; pays(2, 0) = 5; pays(3, 0) = 3; go(1) = 3")
            .due("pays(0, 0) = 2; oath() = 22; pays(1, 0) = 7");
        document.says("spice: the spice").due("pays(0, 0) = 2; pays(0, 1) = 5; pays(0, 2) = 8; pays(0, 3) = 4")
            .due("pays(0, 4) = 7");
        document.says("Returns the coins.").due("pays(3, 4) = 8; pays(3, 2) = 2; account(2) = 20; account(14) = 0");
        document.says(THROWS_INDEX + "market").thrownFor(INDEX, "pays(#, 0)", -1, 4, LEAST, MOST)
            .thrownFor(INDEX, "pays(#, 5)", -1, 4);
        document.says(THROWS_ARGUMENT + "there is no such spice").thrownFor(ARGUMENT, "pays(0, #)", -1, 5, LEAST, MOST)
            .thrownFor(ARGUMENT, "pays(3, #)", -1, 5);
    }

    private static void wouldGet(Document document) {
        document.part("Promise 23: wouldGet");
        document.says("Returns what would be got for a bag at a market, as it is now, with the thumb and the oaths of now")
            .due("jar(2, 900) = 0; bag(12) = 0; fill(0, 0, 113) = 113; wouldGet(0, 0) = 90; wouldGet(0, 3) = 22")
            .due("thumb(3) = 0; wouldGet(0, 0) = 92; thumb(0) = 3; oath() = 19").due("wouldGet(0, 0) = 99")
            .due("wouldGet(0, 1) = 67; days(19) = 19; beat(0) = 19; wouldGet(0, 0) = 99; go(3) = 31; beat(0) = 12")
            .due("wouldGet(0, 0) = 90");
        document.again().due("jar(2, 900) = 0; bag(12) = 0; fill(0, 0, 113) = 113; oath() = 19; go(3) = 12; days(7) = 19")
            .due("wouldGet(0, 0) = 110; account(3) = 0").due("beat(0) = 19; wouldGet(0, 0) = 99; days(1) = 1; beat(0) = 1")
            .due("wouldGet(0, 0) = 90; account(10) = 0; bagOf(0, 5) = 0");
        document.says(", whether the buyers notice the thumb or not").due("jar(2, 900) = 0; bag(12) = 0")
            .due("fill(0, 0, 113) = 113; thumb(4) = 0; wouldGet(0, 0) = 92; thumb(5) = 4").due("wouldGet(0, 0) = 94")
            .due("isNoticed(0) = true; thumb(30) = 5; isNoticed(3) = true; wouldGet(0, 0) = 114; wouldGet(0, 3) = 28")
            .due("told(0) = 155");
        document.says(", and 0 if nothing is weighed net.").due("jar(2, 900) = 0; bag(8) = 0; bag(45) = 1; bag(7) = 2")
            .due("fill(0, 0, 1) = 1; fill(1, 0, 1) = 1; fill(2, 0, 1) = 1").due("wouldGet(0, 0) = 0; wouldGet(1, 0) = 0")
            .due("wouldGet(2, 0) = 0; wouldGet(1, 1) = 0; wouldGet(1, 2) = 0; wouldGet(1, 3) = 0; fill(2, 0, 1) = 2")
            .due("wouldGet(2, 0) = 0; fill(2, 0, 1) = 3; wouldGet(2, 0) = 2");
        document.says("bag: the bag").due("jar(2, 900) = 0; bag(5) = 0; bag(5) = 1; fill(0, 0, 5) = 5; fill(1, 0, 15) = 15")
            .due("wouldGet(0, 0) = 4; wouldGet(1, 0) = 12");
        document.says("market: the market").due("jar(2, 900) = 0; bag(5) = 0; fill(0, 0, 45) = 45; wouldGet(0, 0) = 36")
            .due("wouldGet(0, 1) = 27; wouldGet(0, 2) = 18; wouldGet(0, 3) = 9");
        document.says("Returns the coins.").due("jar(4, 900) = 0; bag(5) = 0; fill(0, 0, 400) = 400; wouldGet(0, 3) = 306")
            .due("wouldGet(0, 0) = 268; account(2) = 20; account(14) = 3");
        document.says(THROWS_INDEX + "bag or market").thrown(INDEX, "wouldGet(0, 0)").due("jar(2, 9) = 0; bag(5) = 0")
            .due("bag(5) = 1; fill(1, 0, 1) = 1").thrownFor(INDEX, "wouldGet(#, 0)", -1, 2, LEAST, MOST)
            .thrownFor(INDEX, "wouldGet(1, #)", -1, 4, LEAST, MOST).thrownFor(INDEX, "wouldGet(0, #)", -1, 4);
        document.says(THROWS_ELEMENT + "the bag is empty").due("jar(2, 9) = 0; bag(5) = 0; thumb(30) = 0; days(60) = 20")
            .thrownFor(ELEMENT, "wouldGet(0, #)", 0, 1, 2, 3).due("fill(0, 0, 1) = 1; wouldGet(0, 0) = 40; empty(0, 0) = 9")
            .thrown(ELEMENT, "wouldGet(0, 0)");
    }

    private static void bestMarket(Document document) {
        document.part("Promise 24: bestMarket");
        document.says("Returns the market that would give most for a bag so").due("jar(0, 900) = 0; jar(1, 900) = 1")
            .due("jar(2, 900) = 2; jar(4, 900) = 3; bag(10) = 0; bag(10) = 1; bag(10) = 2; bag(10) = 3")
            .due("fill(0, 0, 100) = 100; fill(1, 1, 100) = 100; fill(2, 2, 100) = 100; fill(3, 3, 100) = 100")
            .due("bestMarket(0) = 1; bestMarket(1) = 2; bestMarket(2) = 0; bestMarket(3) = 3");
        document.again().due("jar(2, 900) = 0; bag(5) = 0; bag(5) = 1; fill(0, 0, 6) = 6; wouldGet(0, 0) = 4")
            .due("wouldGet(0, 1) = 3; go(1) = 3; bestMarket(0) = 0");
        document.again().due("jar(3, 900) = 0; bag(5) = 0; go(3) = 12; oath() = 31; go(2) = 17; thumb(30) = 0; beat(0) = 17")
            .due("fill(0, 0, 300) = 300; bestMarket(0) = 2; wouldGet(0, 2) = 231; wouldGet(0, 3) = 181");
        document.again().due("jar(4, 900) = 0; bag(5) = 0; fill(0, 0, 30) = 30; wouldGet(0, 0) = 21; wouldGet(0, 3) = 24")
            .due("oath() = 19; wouldGet(0, 0) = 23; bestMarket(0) = 3");
        document.says(", of several the nearest one").due("jar(3, 900) = 0; bag(5) = 0; fill(0, 0, 2) = 2")
            .due("wouldGet(0, 0) = 0; wouldGet(0, 1) = 0; wouldGet(0, 2) = 1; wouldGet(0, 3) = 1; bestMarket(0) = 2")
            .due("go(3) = 12; beat(0) = 12; wouldGet(0, 2) = 1; bestMarket(0) = 3; go(1) = 21; beat(0) = 9")
            .due("bestMarket(0) = 2; go(2) = 25; beat(0) = 4; bestMarket(0) = 2");
        document.again().due("jar(2, 900) = 0; bag(5) = 0; fill(0, 0, 2) = 2; wouldGet(0, 0) = 1; wouldGet(0, 1) = 1")
            .due("wouldGet(0, 2) = 0; go(2) = 7; beat(0) = 7; bestMarket(0) = 1; go(0) = 14; beat(0) = 7")
            .due("bestMarket(0) = 0");
        document.says(", of these the lowest one.").due("jar(2, 900) = 0; bag(8) = 0; fill(0, 0, 1) = 1; bestMarket(0) = 0")
            .due("go(1) = 3; beat(0) = 3; bestMarket(0) = 1; go(2) = 7; beat(0) = 4; bestMarket(0) = 2; go(3) = 12")
            .due("beat(0) = 5; bestMarket(0) = 3");
        document.says("bag: the bag").due("jar(0, 900) = 0; jar(4, 900) = 1; bag(5) = 0; bag(5) = 1; fill(0, 0, 50) = 50")
            .due("fill(1, 1, 50) = 50; bestMarket(0) = 1; bestMarket(1) = 3");
        document.says("Returns the market.").due("jar(2, 900) = 0; bag(5) = 0; fill(0, 0, 400) = 400; go(3) = 12")
            .due("bestMarket(0) = 0; account(1) = 3; account(14) = 4");
        noSuchBag(document.says(THROWS_INDEX + "bag"), "bestMarket(#)");
        document.says(THROWS_ELEMENT + "the bag is empty").due("jar(2, 9) = 0; bag(5) = 0").thrown(ELEMENT, "bestMarket(0)")
            .due("fill(0, 0, 1) = 1; bestMarket(0) = 0; sell(0) = 0").thrown(ELEMENT, "bestMarket(0)");
    }

    private static void oathUntil(Document document) {
        document.part("Promise 25: oathUntil");
        document.says("Returns the last day in which the oath of a market is in force.").due("oath() = 19; go(1) = 3")
            .due("oathUntil(0) = 19; oath() = 22; oathUntil(1) = 22; oathUntil(0) = 19; days(16) = 0; oathUntil(0) = 19")
            .due("days(1) = 0; account(0) = 20; oathUntil(1) = 22").thrown(ELEMENT, "oathUntil(0)")
            .due("days(2) = 0; oathUntil(1) = 22; days(1) = 0").thrown(ELEMENT, "oathUntil(1)");
        document.says("market: the market").due("oath() = 19; go(3) = 12; oath() = 31; oathUntil(0) = 19; oathUntil(3) = 31")
            .thrownFor(ELEMENT, "oathUntil(#)", 1, 2);
        document.says("Returns the day.").due("days(60) = 0; oath() = 79; oathUntil(0) = 79; account(14) = 2");
        document.says(THROWS_INDEX + "market").thrownFor(INDEX, "oathUntil(#)", -1, 4, LEAST, MOST);
        document.says(THROWS_ELEMENT + "none is in force there").thrownFor(ELEMENT, "oathUntil(#)", 0, 1, 2, 3)
            .due("oath() = 19; undo() = 0").thrown(ELEMENT, "oathUntil(0)").due("oath() = 19; days(19) = 0")
            .due("oathUntil(0) = 19; days(1) = 0").thrown(ELEMENT, "oathUntil(0)").due("undo() = 2; oathUntil(0) = 19");
    }

    private static void isNoticed(Document document) {
        document.part("Promise 26: isNoticed");
        document.says("Returns whether the buyers of a market would notice the thumb as it is.").due("isNoticed(0) = false")
            .due("thumb(30) = 0; isNoticed(0) = true; thumb(0) = 30; isNoticed(0) = false; oath() = 19; go(1) = 3")
            .due("thumb(10) = 0; isNoticed(0) = true");
        document.says("market: the market").due("thumb(10) = 0; isNoticed(0) = true; isNoticed(1) = true")
            .due("isNoticed(2) = false; isNoticed(3) = false");
        document.says("Returns whether it is so.").due("thumb(4) = 0; isNoticed(0) = false; thumb(5) = 4")
            .due("isNoticed(0) = true; isNoticed(1) = false; thumb(9) = 5; isNoticed(1) = false; thumb(10) = 9")
            .due("isNoticed(1) = true").due("thumb(14) = 10; isNoticed(2) = false; thumb(15) = 14; isNoticed(2) = true")
            .due("thumb(20) = 15; isNoticed(3) = false; thumb(21) = 20; isNoticed(3) = true; account(14) = 8");
        document.says(THROWS_INDEX + "market").thrownFor(INDEX, "isNoticed(#)", -1, 4, LEAST, MOST);
    }

    private static void ranked(Document document) {
        document.part("Promise 27: ranked");
        document.says("Returns a bag by its grains: the one with most first").due("jar(4, 900) = 0; bag(5) = 0; bag(5) = 1")
            .due("bag(50) = 2; fill(0, 0, 1) = 1; fill(1, 0, 3) = 3; fill(2, 0, 4) = 4; ranked(0) = 2; ranked(1) = 1")
            .due("ranked(2) = 0").due("fill(0, 0, 399) = 400; ranked(0) = 0; ranked(1) = 2; sell(2) = 2; ranked(0) = 0")
            .due("ranked(1) = 1; ranked(2) = 2; account(14) = 8");
        document.says(", of several the one with the lesser tare").due("jar(4, 900) = 0; bag(50) = 0; bag(49) = 1")
            .due("bag(5) = 2; ranked(0) = 2; ranked(1) = 1; ranked(2) = 0; fill(0, 0, 9) = 9; fill(1, 0, 9) = 9")
            .due("days(9) = 27; beat(0) = 9").due("ranked(0) = 1; ranked(1) = 0; ranked(2) = 2");
        document.says(", of these the lowest one.").due("jar(4, 900) = 0; bag(5) = 0; bag(5) = 1; bag(5) = 2; bag(5) = 3")
            .due("bag(5) = 4; bag(5) = 5; ranked(0) = 0; ranked(1) = 1; ranked(2) = 2; ranked(3) = 3; ranked(4) = 4")
            .due("ranked(5) = 5").due("fill(5, 0, 1) = 1; fill(3, 0, 1) = 1; ranked(0) = 3; ranked(1) = 5; ranked(2) = 0")
            .due("ranked(5) = 4");
        document.says("rank: the rank, from 0").due("bag(6) = 0; bag(5) = 1; ranked(0) = 1; ranked(1) = 0")
            .thrownFor(ELEMENT, "ranked(#)", -1, 2);
        document.says("Returns the bag.").due("bag(50) = 0; ranked(0) = 0; bag(5) = 1; ranked(0) = 1; undo() = 1")
            .due("ranked(0) = 0");
        document.says(THROWS_ELEMENT + "there is no such rank").thrownFor(ELEMENT, "ranked(#)", 0, -1, 1, LEAST, MOST)
            .due("bag(5) = 0; bag(5) = 1; bag(5) = 2; bag(5) = 3; bag(5) = 4; bag(5) = 5; ranked(5) = 5")
            .thrownFor(ELEMENT, "ranked(#)", -1, 6, LEAST, MOST);
    }

    private static void meanDust(Document document) {
        document.part("Promise 34: meanDust");
        document.says("Returns the mean dust of the bags: their dust together divided by their number, both as floats.")
            .due("bag(5) = 0; meanDust() = 0.0; days(1) = 1; meanDust() = 1.0; bag(5) = 1; meanDust() = 0.5; bag(5) = 2")
            .due("meanDust() = " + 1.0f / 3.0f).due("days(60) = 60; meanDust() = 20.0")
            .due("bag(5) = 3; bag(5) = 4; bag(5) = 5; meanDust() = 10.0; beat(0) = 20; meanDust() = " + 40.0f / 6.0f);
        document.says("Returns the mean.")
            .due("bag(5) = 0; bag(5) = 1; bag(5) = 2; days(2) = 6; beat(1) = 2; meanDust() = " + 4.0f / 3.0f)
            .due("account(14) = 5");
        document.says("Throws ArithmeticException if there are none").thrown("ArithmeticException", "meanDust()")
            .due("bag(5) = 0; meanDust() = 0.0; undo() = 0").thrown("ArithmeticException", "meanDust()");
    }

    private static void honestShare(Document document) {
        document.part("Promise 35: honestShare");
        document.says("Returns the grains that were sold so far divided by those that were weighed net for them, both as doubles.")
            .due("jar(2, 900) = 0; bag(7) = 0; bag(5) = 1; fill(0, 0, 1) = 1; sell(0) = 0; honestShare() = 1.0")
            .due("thumb(4) = 0; fill(1, 0, 7) = 7; sell(1) = 8; honestShare() = " + 8.0 / 12.0)
            .due("fill(1, 0, 400) = 400; sell(1) = 306; honestShare() = " + 408.0 / 395.0);
        document.says("Returns the quotient.").due("jar(2, 900) = 0; bag(5) = 0; thumb(3) = 0; fill(0, 0, 2) = 2")
            .due("sell(0) = 4; honestShare() = 0.4; account(14) = 5; undo() = 4")
            .thrown("ArithmeticException", "honestShare()");
        document.says("Throws ArithmeticException if nothing was sold").thrown("ArithmeticException", "honestShare()")
            .due("jar(2, 900) = 0; bag(8) = 0; fill(0, 0, 1) = 1; weigh(0) = 8").refused("sell(0)", 11, 8)
            .thrown("ArithmeticException", "honestShare()").due("fill(0, 0, 1) = 2; sell(0) = 1; honestShare() = 1.0");
    }

    private static void accounts(Document document) {
        document.part("Promise 36: account");
        document.says("Returns an account.").due("account(2) = 20; account(2) = 20; account(14) = 0");
        document.says("what: 0 for the day").due("account(0) = 0; days(60) = 0; account(0) = 60; go(3) = 72")
            .due("account(0) = 72; undo() = 1; account(0) = 60");
        document.says(", 1 for the market").due("account(1) = 0; go(3) = 12; account(1) = 3; go(0) = 24; account(1) = 0");
        document.says(", 2 for the coins").due("account(2) = 20").times(10, "seal(0) = 0").due("account(2) = 0")
            .due("jar(2, 900) = 0; bag(5) = 0; fill(0, 0, 400) = 400; sell(0) = 306; account(2) = 306; seal(0) = 0")
            .due("account(2) = 304");
        document.says(", 3 for the thumb").due("account(3) = 0; thumb(30) = 0; account(3) = 30; thumb(0) = 30")
            .due("account(3) = 0");
        document.says(", 4 for the jars").due("account(4) = 0; jar(0, 0) = 0; account(4) = 1; jar(0, 1) = 1; jar(0, 1) = 2")
            .due("jar(0, 1) = 3; jar(0, 1) = 4; jar(0, 1) = 5; account(4) = 6").refused("jar(0, 1)", 2, 6)
            .due("account(4) = 6");
        document.says(", 5 for the bags").due("account(5) = 0; bag(5) = 0; account(5) = 1; bag(5) = 1; bag(5) = 2")
            .due("bag(5) = 3; bag(5) = 4; bag(5) = 5; account(5) = 6").refused("bag(5)", 2, 6).due("account(5) = 6");
        document.says(", 6 for the grains in jars").due("account(6) = 0; jar(0, 900) = 0; jar(1, 900) = 1; jar(2, 900) = 2")
            .due("jar(3, 900) = 3; jar(4, 900) = 4; jar(0, 900) = 5; account(6) = 5400; bag(5) = 0; fill(0, 5, 400) = 400")
            .due("account(6) = 5000; undo() = 7; account(6) = 5400");
        document.says(", 7 for those in bags").due("account(7) = 0; jar(0, 900) = 0; jar(0, 900) = 1; jar(0, 900) = 2")
            .due("bag(5) = 0; bag(5) = 1; bag(5) = 2; bag(5) = 3; bag(5) = 4; bag(5) = 5; fill(0, 0, 400) = 400")
            .due("fill(1, 0, 400) = 400; fill(2, 1, 400) = 400").due("fill(3, 1, 400) = 400; fill(4, 2, 400) = 400")
            .due("fill(5, 2, 400) = 400; account(7) = 2400; sell(5) = 76; account(7) = 2000; empty(0, 0) = 500")
            .due("account(7) = 1600");
        document.says(", 8 for those sold so far").due("account(8) = 0; jar(0, 900) = 0; bag(5) = 0; fill(0, 0, 400) = 400")
            .due("account(8) = 0; sell(0) = 76; account(8) = 400; fill(0, 0, 1) = 1; sell(0) = 0; account(8) = 401");
        document.says(", 9 for those weighed net for them").due("account(9) = 0; jar(0, 900) = 0; bag(5) = 0")
            .due("fill(0, 0, 400) = 400; weigh(0) = 388; account(9) = 0; sell(0) = 76; account(9) = 383; thumb(4) = 0")
            .due("fill(0, 0, 1) = 1; sell(0) = 1; account(9) = 388");
        document.says(", 10 for the bags sold so far").due("account(10) = 0; jar(0, 900) = 0; bag(5) = 0; fill(0, 0, 1) = 1")
            .due("sell(0) = 0; account(10) = 1; fill(0, 0, 1) = 1; sell(0) = 0; account(10) = 2").refused("sell(0)", 6, 0)
            .due("account(10) = 2; undo() = 5; account(10) = 1");
        document.says(", 11 for the coins got so far").due("account(11) = 0; seal(0) = 0; account(11) = 0; jar(2, 900) = 0")
            .due("bag(5) = 0; fill(0, 0, 400) = 400; sell(0) = 306; account(11) = 306; seal(0) = 0; account(11) = 306")
            .due("oath() = 19; fill(0, 0, 5) = 5; sell(0) = 4; account(11) = 310");
        document.says(", 12 for the oaths in force").due("account(12) = 0; oath() = 19; account(12) = 1; go(1) = 3")
            .due("oath() = 22; go(2) = 7; oath() = 26; go(3) = 12; oath() = 31; account(12) = 4; days(7) = 0")
            .due("account(12) = 4; days(1) = 0; account(12) = 3").due("days(11) = 0; account(12) = 1; days(1) = 0")
            .due("account(12) = 0");
        document.says(", 13 for by how much all weights are short together").due("account(13) = 0; jar(0, 900) = 0")
            .due("bag(50) = 0; fill(0, 0, 400) = 400").times(8, "weigh(0) = 388").due("account(13) = 5")
            .times(8, "weigh(0) = 388").due("account(13) = 9; seal(3) = 1; account(13) = 8").times(150, "weigh(0) = 388")
            .due("account(13) = 38; seal(7) = 20; account(13) = 18");
        document.says(", 14 for the changes that can be undone").due("account(14) = 0; days(1) = 0; account(14) = 1")
            .times(6, "days(1) = 0").due("account(14) = 7; days(1) = 0; account(14) = 8; days(1) = 0; account(14) = 8")
            .due("undo() = 7; account(14) = 7; save() = 8; restore() = 8; account(14) = 0");
        document.says(", 15 for the characters in the text buffer").due("account(15) = 0; append('o') = 1; account(15) = 1")
            .due("commands() = 1; account(15) = 0").text("?".repeat(60)).due("account(15) = 60")
            .thrown("IllegalStateException", "append('?')").due("account(15) = 60")
            .due("commands() = throws IllegalArgumentException; account(15) = 0");
        document.says("Returns the account.").due("account(15) = 0; account(0) = 0");
        document.says(THROWS_ARGUMENT + "what is not from 0 to 15").thrownFor(ARGUMENT, "account(#)", -1, 16, LEAST, MOST);
    }
}
