/** A test for each sentence under Reasons and under Changes. */
final class SentencesOfReasons {
    private static final int LEAST = Integer.MIN_VALUE;
    private static final int MOST = Integer.MAX_VALUE;

    static void tests(Document document) {
        document.part("Terms");
        order(document);
        ranges(document);
        missing(document);
        spiceAndGrains(document);
        oathsAndThumbs(document);
        coinsAndMarkets(document);
        details(document);
        changes(document);
        latestEight(document);
        whatStays(document);
    }

    private static void order(Document document) {
        Run full = document.says("Reasons. Something is refused for the first that applies of the reasons that its method names, "
                + "in the order in which it names them:")
            .due("jar(1, 900) = 0; jar(1, 900) = 1; jar(1, 900) = 2; jar(3, 900) = 3; jar(1, 20) = 4; jar(3, 0) = 5")
            .due("bag(5) = 0; bag(45) = 1; bag(8) = 2; bag(50) = 3; bag(50) = 4; bag(50) = 5");
        full.refused("jar(5, 0)", 1, 0).refused("jar(0, 901)", 1, 0).refused("jar(0, 0)", 2, 6).refused("bag(4)", 1, 0)
            .refused("bag(51)", 1, 0).refused("bag(5)", 2, 6);
        full.due("fill(0, 0, 390) = 390").refused("fill(6, 6, 401)", 3, 6).refused("fill(0, 7, 401)", 3, 7)
            .refused("fill(0, 3, 401)", 1, 0).refused("fill(0, 5, 400)", 4, 1).refused("fill(0, 4, 21)", 5, 20)
            .refused("fill(0, 4, 20)", 7, 10).refused("fill(1, 5, 1)", 5, 0);
        full.refused("empty(6, 7)", 3, 6).refused("empty(1, 7)", 3, 7).refused("empty(1, 3)", 6, 1)
            .refused("empty(0, 3)", 4, 1).refused("empty(0, 1)", 7, 0);
        full.due("fill(1, 0, 1) = 1; thumb(5) = 0").refused("sell(6)", 3, 6).refused("sell(2)", 6, 2)
            .refused("sell(1)", 10, 4).due("thumb(0) = 5").refused("sell(2)", 6, 2).refused("sell(1)", 11, 38);
        full.refused("thumb(31)", 1, 0).due("oath() = 19").refused("thumb(31)", 1, 0).refused("thumb(-1)", 1, 0)
            .refused("thumb(1)", 8, 20).times(10, "seal(0) = 0").refused("seal(8)", 3, 8).refused("seal(7)", 12, 2)
            .refused("go(4)", 3, 4).refused("go(0)", 13, 0);
    }

    private static void ranges(Document document) {
        document.says("1, a number is out of range;").due("jar(1, 900) = 0; bag(5) = 0; fill(0, 0, 9) = 9")
            .refusedFor("jar(#, 0)", 1, 0, -1, 5, LEAST, MOST).refusedFor("jar(0, #)", 1, 0, -1, 901, LEAST, MOST)
            .refusedFor("bag(#)", 1, 0, 4, 51, LEAST, MOST).refusedFor("fill(0, 0, #)", 1, 0, 0, 401, LEAST, MOST)
            .refusedFor("thumb(#)", 1, 0, -1, 31, LEAST, MOST).refusedFor("days(#)", 1, 0, 0, 61, LEAST, MOST)
            .refusedText("t31", 1, 0, 0).refusedText("n0", 1, 0, 0).refusedText("n61", 1, 0, 0)
            .refusedText("f0<0+401", 1, 0, 0).refusedText("f0<0+0", 1, 0, 0);
        document.says("2, there would be more than there can be: how many there can be;").due("jar(0, 1) = 0; jar(0, 1) = 1")
            .due("jar(0, 1) = 2; jar(0, 1) = 3; jar(0, 1) = 4; jar(0, 1) = 5").refused("jar(0, 0)", 2, 6).due("bag(5) = 0")
            .due("bag(5) = 1; bag(5) = 2; bag(5) = 3; bag(5) = 4; bag(5) = 5").refused("bag(5)", 2, 6)
            .refused("jar(4, 900)", 2, 6);
    }

    private static void missing(Document document) {
        document.says("3, there is no such bag, jar, market or weight, looked at in the order of the parameters: its number;")
            .refused("fill(0, 0, 1)", 3, 0).refused("fill(8, 9, 1)", 3, 8).refused("empty(7, 6)", 3, 7)
            .due("bag(5) = 0; bag(5) = 1").refused("fill(1, 0, 1)", 3, 0).refused("fill(2, 9, 1)", 3, 2)
            .refused("fill(1, 9, 1)", 3, 9).refused("empty(1, 6)", 3, 6).due("jar(0, 9) = 0")
            .missingFor("fill(#, 0, 1)", -1, 2, LEAST, MOST).missingFor("fill(0, #, 1)", -1, 1, LEAST, MOST)
            .missingFor("empty(#, 0)", -1, 2, LEAST, MOST).missingFor("empty(0, #)", -1, 1, LEAST, MOST)
            .missingFor("beat(#)", -1, 2, LEAST, MOST).missingFor("weigh(#)", -1, 2, LEAST, MOST)
            .missingFor("sell(#)", -1, 2, LEAST, MOST).missingFor("go(#)", -1, 4, LEAST, MOST)
            .missingFor("seal(#)", -1, 8, LEAST, MOST);
    }

    private static void spiceAndGrains(Document document) {
        document.says("4, the bag is of another spice than the jar: the spice of the bag;").due("jar(0, 9) = 0")
            .due("jar(4, 9) = 1; bag(5) = 0; fill(0, 1, 1) = 1").refused("fill(0, 0, 1)", 4, 4).refused("empty(0, 0)", 4, 4)
            .due("empty(0, 1) = 9; fill(0, 0, 1) = 1").refused("fill(0, 1, 1)", 4, 0).refused("empty(0, 1)", 4, 0);
        document.says("5, the jar has too few grains: how many it has;")
            .due("jar(0, 9) = 0; jar(0, 0) = 1; bag(5) = 0").refused("fill(0, 0, 10)", 5, 9).refused("fill(0, 1, 1)", 5, 0)
            .due("fill(0, 0, 8) = 8").refused("fill(0, 0, 2)", 5, 1).due("fill(0, 0, 1) = 9").refused("fill(0, 0, 1)", 5, 0);
        document.says("6, the bag is empty: the bag;").due("jar(0, 9) = 0; bag(5) = 0; bag(5) = 1").refused("sell(1)", 6, 1)
            .refused("empty(1, 0)", 6, 1).refused("empty(0, 0)", 6, 0).due("fill(1, 0, 9) = 9; empty(1, 0) = 9")
            .refused("sell(1)", 6, 1).due("fill(1, 0, 9) = 9; sell(1) = 1").refused("empty(1, 0)", 6, 1);
        document.says("7, there is too little room: how much there is;").due("jar(0, 900) = 0; jar(0, 500) = 1; bag(5) = 0")
            .due("fill(0, 0, 399) = 399").refused("fill(0, 0, 2)", 7, 1).due("fill(0, 0, 1) = 400")
            .refused("fill(0, 0, 1)", 7, 0).due("empty(0, 1) = 900; fill(0, 0, 1) = 1").refused("empty(0, 1)", 7, 0)
            .due("jar(0, 898) = 2; fill(0, 0, 2) = 3").refused("empty(0, 2)", 7, 2)
            .due("bag(5) = 1; fill(1, 2, 1) = 1; empty(0, 2) = 900");
    }

    private static void oathsAndThumbs(Document document) {
        document.says("8, an oath is in force here: for how many days yet, this one included;").due("oath() = 19")
            .refused("oath()", 8, 20).refused("thumb(0)", 8, 20).due("days(10) = 0").refused("thumb(30)", 8, 10)
            .due("days(8) = 0").refused("oath()", 8, 2).due("go(1) = 21; thumb(3) = 0; thumb(0) = 3; go(0) = 24")
            .due("oath() = 43; go(1) = 27; days(13) = 0").due("go(0) = 43").refused("oath()", 8, 1).refused("thumb(1)", 8, 1)
            .due("days(1) = 0; thumb(0) = 0; oath() = 63");
        document.says("9, the thumb is on the pan: the thumb;").due("thumb(1) = 0").refused("oath()", 9, 1)
            .due("thumb(30) = 1").refused("oath()", 9, 30).due("thumb(0) = 30; oath() = 19");
        document.says("10, the buyers notice the thumb: the greatest thumb that they do not notice;").due("jar(0, 900) = 0")
            .due("bag(5) = 0; fill(0, 0, 9) = 9; thumb(5) = 0").refused("sell(0)", 10, 4).due("go(1) = 3; thumb(10) = 5")
            .refused("sell(0)", 10, 9).due("go(2) = 7; thumb(15) = 10").refused("sell(0)", 10, 14)
            .due("go(3) = 12; thumb(21) = 15").refused("sell(0)", 10, 20).due("thumb(30) = 21").refused("sell(0)", 10, 20)
            .due("thumb(20) = 30; bagOf(0, 4) = 46; sell(0) = 9");
        document.says("11, nothing is weighed net: what the scale tells;").due("jar(0, 900) = 0; bag(8) = 0; bag(45) = 1")
            .due("bag(50) = 2; fill(0, 0, 1) = 1; fill(1, 0, 1) = 1; fill(2, 0, 1) = 1").refused("sell(0)", 11, 8)
            .refused("sell(1)", 11, 38).due("sell(2) = 0; account(9) = 1; thumb(1) = 0; sell(0) = 0; account(9) = 3");
    }

    private static void coinsAndMarkets(Document document) {
        document.says("12, there are too few coins: how many are missing;")
            .due("jar(2, 900) = 0; bag(5) = 0; fill(0, 0, 2) = 2").times(10, "seal(7) = 0").refused("seal(0)", 12, 2)
            .due("sell(0) = 1; account(2) = 1").refused("seal(0)", 12, 1).due("fill(0, 0, 2) = 2; sell(0) = 1; seal(0) = 0")
            .due("account(2) = 0").refused("seal(0)", 12, 2);
        document.says("13, the caravan is there: the market.").refused("go(0)", 13, 0).due("go(3) = 12")
            .refused("go(3)", 13, 3).due("go(1) = 21").refused("go(1)", 13, 1).due("go(2) = 25").refused("go(2)", 13, 2)
            .due("undo() = 2; go(2) = 25; go(0) = 32");
    }

    private static void details(Document document) {
        document.says("If nothing else is told, the detail is 0.")
            .refused("weigh(5)", 3, 5).refused("jar(9, 9)", 1, 0).refused("weigh(5)", 3, 5).refused("bag(0)", 1, 0)
            .refused("weigh(5)", 3, 5).refused("thumb(31)", 1, 0).refused("weigh(5)", 3, 5).refused("days(0)", 1, 0)
            .due("jar(0, 9) = 0; bag(5) = 0").refused("weigh(5)", 3, 5).refused("fill(0, 0, 0)", 1, 0)
            .refusedText("t1;w5", 3, 5, 1).refusedText("t1;t31", 1, 0, 1);
        document.says("The reason is kept with the index of the command of a text, from 0, or 0 for another call.")
            .refusedText("w7", 3, 7, 0).refusedText("o;w7", 3, 7, 1).refusedText("n1;n1;w7", 3, 7, 2)
            .refused("weigh(6)", 3, 6).due("bag(5) = 0").refusedText("b0;".repeat(19) + "w7", 3, 7, 19)
            .refused("days(0)", 1, 0).refusedText("o" + ";o".repeat(29), 8, 20, 1).refused("beat(1)", 3, 1);
    }

    private static void changes(Document document) {
        String[] calls = {
            "jar(1, 300)", "bag(33)", "fill(0, 0, 50)", "empty(0, 0)", "beat(0)", "thumb(4)", "weigh(0)", "sell(0)", "oath()",
            "go(1)", "seal(6)", "days(3)", "beat(1)", "thumb(0)", "seal(1)",
        };
        Run first = document.says("Changes. What can be undone are the successful calls of jar, bag, fill, empty, beat, thumb, "
                + "weigh, sell, oath, go, seal, days and commands.");
        first.due("save() = 0; restore() = 0; faultPosition() = -1; append('o') = 1; account(14) = 0; isNoticed(0) = false")
            .thrown("IllegalStateException", "undo()").refused("days(0)", 1, 0).thrown("IllegalStateException", "undo()");
        for (String call : calls) {
            Run run = changed(document.again());
            String before = Run.stateOf(run.scale);
            run.same(call + " succeeds", Run.answer(run.scale, call).startsWith("throws"), false)
                .due("account(14) = 6; undo() = 5").sameState(call + ", undone", Run.stateOf(run.scale), before);
        }
        Run text = changed(document.again());
        String before = Run.stateOf(text.scale);
        text.done("f0<0+50;e0>0;f0<0+9;b0;t4;w0;s0;t0;o;g1;x6;n3", 12).due("account(14) = 6; undo() = 5")
            .sameState("the text, undone", Run.stateOf(text.scale), before);
        text.refused("go(0)", 13, 0).faulty("w0;", 3).refusedText("w0;w9", 3, 9, 1)
            .due("account(14) = 5; undo() = 4; bagOf(0, 1) = 0");
    }

    private static Run changed(Run run) {
        return run.due("jar(1, 800) = 0; bag(20) = 0; bag(5) = 1; fill(0, 0, 90) = 90; days(7) = 14; account(14) = 5");
    }

    private static void latestEight(Document document) {
        document.says("What there was before each of the latest 8 is kept").due("days(1) = 0; days(2) = 0; days(3) = 0")
            .due("days(4) = 0; days(5) = 0; days(6) = 0; days(7) = 0; account(14) = 7").due("days(8) = 0; account(14) = 8")
            .due("days(9) = 0; account(14) = 8; days(10) = 0; account(14) = 8; undo() = 7; account(0) = 45")
            .due("undo() = 6; account(0) = 36; undo() = 5; account(0) = 28; undo() = 4; account(0) = 21; undo() = 3")
            .due("account(0) = 15").due("undo() = 2; account(0) = 10; undo() = 1; account(0) = 6; undo() = 0")
            .due("account(0) = 3").thrown("IllegalStateException", "undo()").due("account(14) = 0; days(1) = 0")
            .due("account(14) = 1; undo() = 0; account(0) = 3");
        Run round = document.again().due("bag(5) = 0");
        for (int weighing = 1; weighing <= 40; weighing++) {
            round.due("weigh(0) = 5; weigh(0) = 5; undo() = " + Math.min(7, weighing + 1) + "; bagOf(0, 5) = " + weighing);
        }
        round.due("undo() = 6; bagOf(0, 5) = 39; undo() = 5; undo() = 4; undo() = 3; undo() = 2; undo() = 1; undo() = 0")
            .due("bagOf(0, 5) = 33; account(14) = 0").thrown("IllegalStateException", "undo()");
        document.says("; restore forgets it.").due("days(1) = 0; save() = 1; days(1) = 0; days(1) = 0; account(14) = 3")
            .due("restore() = 1; account(14) = 0").thrown("IllegalStateException", "undo()").due("account(0) = 1")
            .due("days(5) = 0; undo() = 0; account(0) = 1").times(9, "days(1) = 0")
            .due("account(14) = 8; restore() = 1; account(14) = 0").thrown("IllegalStateException", "undo()");
    }

    private static void whatStays(Document document) {
        Run run = document.says("The text buffer, the fault position, the reason and the line do not belong to it, and stay.")
            .due("bag(5) = 0; save() = 0; line(0) = 3").faulty("o?", 1).refused("seal(8)", 3, 8)
            .due("thumb(1) = 0; bag(7) = 1; line(1) = 7").text("w0;w1");
        String[] calls = {"undo() = 2", "undo() = 1", "undo() = 0", "restore() = 0", "bag(7) = 1", "save() = 0", "restore() = 0"};
        for (String call : calls) {
            run.due(call + "; account(15) = 5; faultPosition() = 1; character(6) = 8")
                .same("line", Run.lineOf(run.scale), "5+2+1=8").reasonIs(3, 8, 0);
        }
    }
}
