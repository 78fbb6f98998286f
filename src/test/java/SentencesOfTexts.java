/** A test for each sentence, or part of one, under Texts. */
final class SentencesOfTexts {
    private static final String LETTERS = "febwstogxn";

    static void tests(Document document) {
        document.part("Terms");
        buffer(document);
        forms(document);
        shortForms(document);
        digits(document);
        faultPositions(document);
        allOrNone(document);
    }

    private static void buffer(Document document) {
        document.says("Texts. The text buffer holds one or more commands with \";\" between them").due("bag(5) = 0")
            .faulty("", 0).faulty(";", 0).faulty(";o", 0).done("b0", 1).done("b0;b0", 2).faulty("b0;", 3).faulty("b0;;b0", 3)
            .faulty("b0b0", 2).faulty("b0,b0", 2).faulty("b0 ;b0", 2).faulty("b0; b0", 3).faulty("b0:b0", 2)
            .done("b0" + ";b0".repeat(19), 20).done("o" + ";b0".repeat(19), 20);
    }

    private static void forms(Document document) {
        document.says(": \"f\", a bag, \"<\", a jar, \"+\" and grains to fill the bag").due("jar(0, 900) = 0")
            .due("jar(3, 900) = 1; bag(5) = 0; bag(5) = 1").done("f1<0+1", 1).done("f0<1+400", 1).due("bagOf(1, 3) = 1")
            .due("bagOf(1, 2) = 0; bagOf(0, 3) = 400; bagOf(0, 2) = 3; jarOf(1, false) = 500").faulty("f", 1).faulty("f<", 1)
            .faulty("f0", 2).faulty("f0+", 2).faulty("f0<", 3).faulty("f0<+", 3).faulty("f0<0", 4).faulty("f0<0<", 4)
            .faulty("f0<0+", 5).faulty("f0<0+;", 5).faulty("f0<0+1<", 6).faulty("F0<0+1", 0).faulty("f-1<0+1", 1)
            .refusedText("f1<0+0", 1, 0, 0).refusedText("f1<0+401", 1, 0, 0).refusedText("f2<0+1", 3, 2, 0)
            .refusedText("f0<2+1", 3, 2, 0);
        document.says("; \"e\", a bag, \">\" and a jar to empty it into the jar")
            .due("jar(0, 900) = 0; jar(0, 0) = 1; bag(5) = 0; bag(5) = 1; fill(1, 0, 400) = 400").done("e1>1", 1)
            .due("bagOf(1, 3) = 0; jarOf(1, false) = 400").faulty("e", 1).faulty("e>", 1).faulty("e0", 2).faulty("e0<", 2)
            .faulty("e0>", 3).faulty("e0>;", 3).faulty("e0>0+", 4).faulty("e0>0>", 4)
            .refusedText("e1>1", 6, 1, 0).refusedText("e2>0", 3, 2, 0).refusedText("e0>2", 3, 2, 0);
    }

    /** A letter and a number, and "o". */
    private static void shortForms(Document document) {
        document.says("; \"b\" and a bag to beat its dust out").due("bag(5) = 0; bag(6) = 1; days(20) = 40").done("b1", 1)
            .due("bagOf(1, 1) = 0; bagOf(0, 1) = 20").done("b1", 1).faulty("b", 1).faulty("b;", 1).faulty("b01", 2)
            .faulty("b0>", 2).refusedText("b2", 3, 2, 0).refusedText("b9", 3, 9, 0);
        document.says("; \"w\" and a bag to weigh it").due("bag(5) = 0; bag(6) = 1").done("w1", 1)
            .due("bagOf(1, 5) = 1; bagOf(0, 5) = 0; weightOf(2, 2) = 1; weightOf(0, 2) = 1").faulty("w", 1).faulty("w;", 1)
            .faulty("w01", 2).refusedText("w2", 3, 2, 0).refusedText("w9", 3, 9, 0);
        document.says("; \"s\" and a bag to sell it").due("jar(2, 9) = 0; bag(5) = 0; bag(5) = 1; fill(1, 0, 5) = 5")
            .done("s1", 1).due("account(2) = 24; bagOf(1, 3) = 0").faulty("s", 1).faulty("s;", 1).faulty("s01", 2)
            .refusedText("s1", 6, 1, 0).refusedText("s2", 3, 2, 0);
        document.says("; \"t\" and a thumb").done("t30", 1).due("account(3) = 30").done("t0", 1).due("account(3) = 0")
            .faulty("t", 1).faulty("t;", 1).refusedText("t31", 1, 0, 0).refusedText("t99", 1, 0, 0).done("o", 1)
            .refusedText("t0", 8, 20, 0);
        document.says("; \"o\" for an oath").done("o", 1).due("oathUntil(0) = 19").faulty("o0", 1).faulty("oo", 1)
            .faulty("O", 0).faulty("0", 0).refusedText("o", 8, 20, 0).done("n20;o", 2).due("oathUntil(0) = 39");
        document.says("; \"g\" and a market to go there").done("g3", 1).due("account(1) = 3; account(0) = 12").done("g0", 1)
            .due("account(1) = 0; account(0) = 24").faulty("g", 1).faulty("g;", 1).faulty("g01", 2)
            .refusedText("g0", 13, 0, 0).refusedText("g4", 3, 4, 0).refusedText("g9", 3, 9, 0);
        document.says("; \"x\" and a weight to seal it").due("bag(5) = 0; weigh(0) = 5").done("x2", 1)
            .due("weightOf(2, 2) = 0; account(2) = 18").done("x0;x7", 2).due("account(2) = 14").faulty("x", 1)
            .faulty("x;", 1).faulty("x01", 2).refusedText("x8", 3, 8, 0).done("x7;x7;x7;x7;x7;x7;x7", 7)
            .refusedText("x7", 12, 2, 0);
        document.says("; \"n\" and a number of days.").done("n1", 1).done("n60", 1).due("account(0) = 61").faulty("n", 1)
            .faulty("n;", 1).refusedText("n0", 1, 0, 0).refusedText("n00", 1, 0, 0).refusedText("n61", 1, 0, 0)
            .refusedText("n99", 1, 0, 0);
    }

    private static void digits(Document document) {
        document.says("Grains have 1 to 3 digits").due("jar(0, 900) = 0; bag(5) = 0").faulty("f0<0+", 5).done("f0<0+1", 1)
            .due("bagOf(0, 3) = 1").done("f0<0+01", 1).done("f0<0+001", 1).done("f0<0+10", 1).done("f0<0+100", 1)
            .due("bagOf(0, 3) = 113").faulty("f0<0+0001", 8).faulty("f0<0+1000", 8).refusedText("f0<0+999", 1, 0, 0)
            .refusedText("f0<0+0", 1, 0, 0).refusedText("f0<0+000", 1, 0, 0);
        document.says(", thumbs and days 1 or 2").faulty("t", 1).done("t9", 1).done("t09", 1).done("t10", 1)
            .faulty("t100", 3).faulty("t010", 3).due("account(3) = 10").faulty("n", 1).done("n9", 1).done("n09", 1)
            .done("n10", 1).faulty("n100", 3).faulty("n010", 3).due("account(0) = 28");
        Run one = document.says(", all other numbers one.");
        for (char letter : "bwsgx".toCharArray()) {
            one.faulty("" + letter, 1).faulty(letter + "00", 2).faulty(letter + "01", 2).faulty(letter + "10", 2);
        }
        one.faulty("f00<0+1", 2).faulty("f<0+1", 1).faulty("f0<00+1", 4).faulty("f0<+1", 3).faulty("e00>0", 2).faulty("e>0", 1)
            .faulty("e0>00", 4).faulty("e0>", 3).due("account(14) = 0");
    }

    private static void faultPositions(Document document) {
        Run run = document.says("The fault position of a text is the index of its first character that cannot continue such a text");
        for (char character = 0; character < 256; character++) {
            boolean isLetter = LETTERS.indexOf(character) >= 0;
            boolean isDigit = character >= '0' && character <= '9';
            if (!isLetter) {
                run.faulty("" + character, 0).faulty("n9;" + character + "n9", 3);
            }
            if (!isDigit) {
                run.faulty("f" + character + "0<0+1", 1).faulty("f0<" + character, 3).faulty("f0<0+" + character, 5)
                    .faulty("t" + character, 1).faulty("n9;x" + character, 4).faulty("e0>" + character, 3);
            }
            if (character != ';') {
                run.faulty("o" + character + "?", 1).faulty("g1" + character, 2).faulty("f0<0+123" + character, 8);
            }
            if (!isDigit && character != ';') {
                run.faulty("t1" + character, 2).faulty("f0<0+1" + character, 6).faulty("f0<0+12" + character, 7);
            }
            if (character != '<') {
                run.faulty("f0" + character + "0+1", 2);
            }
            if (character != '>') {
                run.faulty("e0" + character + "0", 2);
            }
            if (character != '+') {
                run.faulty("f0<0" + character + "1", 4);
            }
        }
        run.faulty("" + (char) 256, 0).faulty("" + (char) 65535, 0).faulty("t" + (char) ('1' + 256), 1)
            .faulty("" + (char) ('o' + 256), 0).faulty("t1;".repeat(19) + "t1x", 59).faulty("?".repeat(60), 0)
            .faulty("o;??", 2).faulty("w9;f9<9+999;t99;n00;e9>9;?", 25).due("account(14) = 0; account(0) = 0")
            .thrown("NoSuchElementException", "reason(0)");
        Run early = document.says(", or the length of the text if it ends too early.").faulty("", 0);
        for (char letter : "febwstgxn".toCharArray()) {
            early.faulty("" + letter, 1).faulty("o;" + letter, 3);
        }
        early.faulty("f1", 2).faulty("f1<", 3).faulty("f1<1", 4).faulty("f1<1+", 5).faulty("e1", 2).faulty("e1>", 3)
            .faulty("o;", 2).faulty("t1;", 3).faulty("t12;", 4).faulty("f1<1+123;", 9).faulty("t1;".repeat(20), 60)
            .faulty("t1;".repeat(18) + "t1;f1<", 60).faulty("t1;".repeat(19) + "o;w", 60);
    }

    private static void allOrNone(Document document) {
        document.says("The commands are carried out as the methods would, all of them or none.")
            .due("jar(2, 900) = 0; bag(12) = 0").done("f0<0+113;t3;s0;t0;o;n9;g1;b0;x0;w0;f0<0+9;e0>0", 12)
            .due("account(0) = 12; account(1) = 1; account(2) = 110; account(3) = 0; oathUntil(0) = 19; account(8) = 113")
            .due("account(9) = 116; bagOf(0, 5) = 2; bagOf(0, 1) = 0; jarOf(0, false) = 787; weightOf(0, 2) = 0")
            .due("account(14) = 3").refusedText("f0<0+9;t3;w0;n9;g0;o", 9, 3, 5).refusedText("w9", 3, 9, 0)
            .refusedText("w0;w0;w9", 3, 9, 2).due("account(14) = 3; account(15) = 0");
        String[] texts = {"f0<0+113", "w0", "n7", "t4", "s0", "b0", "g3", "t0", "o", "x1", "f0<1+400", "e0>1"};
        String[] calls = {
            "fill(0, 0, 113)", "weigh(0)", "days(7)", "thumb(4)", "sell(0)", "beat(0)", "go(3)", "thumb(0)", "oath()", "seal(1)",
            "fill(0, 1, 400)", "empty(0, 1)",
        };
        String prepared = "jar(2, 900) = 0; jar(1, 800) = 1; bag(12) = 0";
        Run byTexts = document.again().due(prepared);
        Run byCalls = document.again().due(prepared);
        for (int i = 0; i < texts.length; i++) {
            byTexts.done(texts[i], 1);
            byCalls.same(calls[i] + " succeeds", Run.answer(byCalls.scale, calls[i]).startsWith("throws"), false);
            byTexts.sameState(texts[i] + " as " + calls[i], Run.stateOf(byTexts.scale), Run.stateOf(byCalls.scale));
        }
    }
}
