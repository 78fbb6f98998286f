/** A test for each sentence of the promises 28 to 33 and 37 to 39: texts, the line, undo, and the snapshot. */
final class SentencesOfCommands {
    private static final int LEAST = Integer.MIN_VALUE;
    private static final int MOST = Integer.MAX_VALUE;
    private static final String STATE = "IllegalStateException";
    private static final String INDEX = "IndexOutOfBoundsException";

    static void tests(Document document) {
        append(document);
        commands(document);
        refusedCommands(document);
        faultPosition(document);
        reason(document);
        line(document);
        character(document);
        undo(document);
        save(document);
        restore(document);
    }

    private static void append(Document document) {
        document.part("Promise 28: append");
        document.says("Appends a character to the text buffer.").due("append('n') = 1; append('7') = 2; account(15) = 2")
            .due("commands() = 1; account(0) = 7");
        Run each = document.says("character: the character");
        for (int code = 0; code <= Character.MAX_VALUE; code += code < 300 ? 1 : 251) {
            each.due("append('o') = 1").same("append of " + code, each.scale.append((char) code), 2)
                .due("commands() = throws IllegalArgumentException; faultPosition() = " + (code == ';' ? 2 : 1));
        }
        document.says("Returns the new length of the buffer.").text("o;".repeat(30)).due("account(15) = 60")
            .due("commands() = throws IllegalArgumentException; append('o') = 1");
        document.says("Throws IllegalStateException if the buffer contains 60 characters").text("b".repeat(59))
            .due("append('x') = 60").thrown(STATE, "append('o')", "append(';')", "append('?')").due("account(15) = 60")
            .due("commands() = throws IllegalArgumentException; account(15) = 0; append('o') = 1");
        document.again().due("bag(5) = 0").text("t30;b0" + ";b0".repeat(18)).thrown(STATE, "append(';')")
            .due("commands() = 20; account(3) = 30");
    }

    private static void commands(Document document) {
        document.part("Promise 29: commands");
        document.says("Carries out the commands in the text buffer, one after the other").due("jar(2, 900) = 0; bag(12) = 0")
            .done("f0<0+113;s0;f0<0+9;e0>0;g1;g0;g1", 7).due("account(0) = 9; account(1) = 1; account(2) = 110")
            .due("bagOf(0, 3) = 0; bagOf(0, 1) = 9; jarOf(0, false) = 787; account(14) = 3");
        document.says("; if one is refused, none is carried out.").due("jar(2, 900) = 0; bag(12) = 0")
            .refusedText("f0<0+113;s0;g1;g1", 13, 1, 3).due("account(0) = 0; account(1) = 0; account(2) = 20")
            .due("account(10) = 0; jarOf(0, false) = 900; bagOf(0, 5) = 0; account(14) = 2; undo() = 1; undo() = 0");
        document.says("The buffer is empty afterwards, also if an exception is thrown.").text("o")
            .due("account(15) = 1; commands() = 1; account(15) = 0").text("o")
            .due("commands() = throws UnsupportedOperationException; account(15) = 0").text("?")
            .due("commands() = throws IllegalArgumentException; account(15) = 0")
            .due("commands() = throws IllegalArgumentException; account(15) = 0; append('n') = 1; append('1') = 2")
            .due("commands() = 1; append('x') = 1");
        document.says("Returns the number of commands.").due("bag(5) = 0").done("o", 1).done("b0;b0", 2).done("n1;n1;n1", 3)
            .done("w0" + ";w0".repeat(19), 20).due("account(14) = 5").done("n20;o" + ";b0".repeat(18), 20);
        document.says("Throws IllegalArgumentException if the text has a fault").faulty("", 0).faulty("o;", 2).faulty("?", 0)
            .faulty("n1;n1;", 6).faulty("w0;?", 3).due("account(0) = 0; account(12) = 0")
            .thrown("NoSuchElementException", "reason(0)").faulty("?".repeat(60), 0).faulty("n1;".repeat(20), 60);
        document.again().refused("bag(4)", 1, 0).times(8, "days(1) = 0").faulty("n1;", 3).reasonIs(1, 0, 0)
            .due("account(14) = 8; undo() = 7; account(0) = 7");
    }

    private static void refusedCommands(Document document) {
        document.says("Throws UnsupportedOperationException if a command is refused; the reason is kept")
            .due("jar(2, 900) = 0; jar(1, 900) = 1; bag(8) = 0; bag(5) = 1").refusedText("f0<0+401", 1, 0, 0)
            .refusedText("t1;b2", 3, 2, 1).refusedText("f0<0+1;f0<1+1", 4, 2, 1)
            .refusedText("f0<0+400;f1<0+400;e0>0;f0<0+400;f0<0+101", 5, 100, 4).refusedText("s0", 6, 0, 0)
            .refusedText("f0<0+400;f0<0+1", 7, 0, 1).refusedText("o;n5;t1", 8, 15, 2).refusedText("t1;o", 9, 1, 1)
            .refusedText("f0<0+9;t5;s0", 10, 4, 2).refusedText("f0<0+1;s0", 11, 8, 1)
            .refusedText("x0;x0;x0;x0;x0;x0;x0;x0;x0;x0;x0", 12, 2, 10).refusedText("g1;g2;g2", 13, 2, 2).done("n1", 1)
            .reasonIs(13, 2, 2).due("account(14) = 5");
        Run full = document.again().times(9, "days(1) = 0").refusedText("n60;n0", 1, 0, 1).refusedText("n60;n60;w0", 3, 0, 2)
            .due("account(14) = 8; account(0) = 9");
        for (int left = 7; left >= 0; left--) {
            full.due("undo() = " + left + "; account(0) = " + (left + 1));
        }
        full.thrown(STATE, "undo()");
    }

    private static void faultPosition(Document document) {
        document.part("Promise 30: faultPosition");
        document.says("Returns the fault position of the text of the latest call of commands.").faulty("", 0)
            .faulty("f0<0+1234", 8).faulty("o;w", 3).faulty("t1;".repeat(20), 60).due("append('?') = 1")
            .due("faultPosition() = 60; bag(5) = 0; undo() = 0; save() = 0; restore() = 0; faultPosition() = 60")
            .due("commands() = throws IllegalArgumentException; faultPosition() = 0");
        document.says("Returns the fault position, or -1 if that text had no fault or there was no such call.")
            .due("faultPosition() = -1; append('?') = 1; faultPosition() = -1; commands() = throws IllegalArgumentException")
            .due("faultPosition() = 0; append('o') = 1; faultPosition() = 0; commands() = 1; faultPosition() = -1")
            .faulty("x", 1).refusedText("x8", 3, 8, 0).due("faultPosition() = -1");
    }

    private static void reason(Document document) {
        document.part("Promise 31: reason");
        document.says("Returns a number of the reason that is kept.").refused("weigh(4)", 3, 4)
            .due("bag(5) = 0; weigh(0) = 5").reasonIs(3, 4, 0).refusedText("w0;t31", 1, 0, 1)
            .thrown("IndexOutOfBoundsException", "told(1)").reasonIs(1, 0, 1);
        document.says("what: 0 for the reason").refused("bag(4)", 1, 0).due("reason(0) = 1").refused("go(0)", 13, 0)
            .due("reason(0) = 13");
        document.says(", 1 for its detail").refused("seal(-7)", 3, -7).due("reason(1) = -7")
            .refused("seal(2147483647)", 3, MOST).due("reason(1) = 2147483647").refused("thumb(31)", 1, 0)
            .due("reason(1) = 0");
        document.says(", 2 for the index of the command").due("bag(5) = 0").refusedText("b0;".repeat(19) + "b1", 3, 1, 19)
            .due("reason(2) = 19").refused("beat(1)", 3, 1).due("reason(2) = 0").refusedText("b1;b0", 3, 1, 0);
        document.says("Returns the number.").refusedText("n1;n1;b4", 3, 4, 2)
            .due("reason(0) = 3; reason(1) = 4; reason(2) = 2");
        document.says("Throws IllegalArgumentException if what is not from 0 to 2")
            .thrownFor("IllegalArgumentException", "reason(#)", -1, 3, LEAST, MOST).refused("bag(4)", 1, 0)
            .thrownFor("IllegalArgumentException", "reason(#)", -1, 3, LEAST, MOST);
        document.says("Throws NoSuchElementException if nothing was refused")
            .thrownFor("NoSuchElementException", "reason(#)", 0, 1, 2)
            .due("bag(5) = 0; undo() = 0; save() = 0; restore() = 0").faulty("?", 0)
            .thrown("IndexOutOfBoundsException", "told(1)").thrown(STATE, "undo()")
            .thrownFor("NoSuchElementException", "reason(#)", 0, 1, 2).refused("bag(4)", 1, 0)
            .due("save() = 0; restore() = 0").reasonIs(1, 0, 0);
    }

    private static void line(Document document) {
        document.part("Promise 32: line");
        document.says("Writes which weights would lie on the pan for a bag now, in place of the line before")
            .due("bag(8) = 0; bag(5) = 1").lineIs(0, "5+2+1=8").lineIs(1, "5=5").lineIs(0, "5+2+1=8")
            .due("thumb(2) = 0; character(6) = 8").lineIs(0, "10=10").lineIs(1, "5+2=7").due("weightOf(2, 2) = 0")
            .due("bagOf(0, 5) = 0; account(14) = 3");
        document.says(": the heaviest one first, with \"+\" between two, and \"=\" and what the scale would tell behind")
            .due("jar(0, 900) = 0; bag(5) = 0").lineIs(0, "5=5").due("fill(0, 0, 1) = 1").lineIs(0, "5+1=6")
            .due("fill(0, 0, 382) = 383").lineIs(0, "200+100+50+20+10+5+2+1=388").due("thumb(30) = 0")
            .lineIs(0, "200+100+50+20+10+5+2+1=388");
        document.again().due("bag(10) = 0").times(8, "weigh(0) = 10").lineIs(0, "10+1=11");
        document.says("; as in \"100+20+5=125\".").due("jar(2, 900) = 0; bag(12) = 0; fill(0, 0, 113) = 113")
            .lineIs(0, "100+20+5=125");
        document.says("bag: the bag").due("bag(50) = 0; bag(20) = 1").lineIs(1, "20=20").lineIs(0, "50=50");
        document.says("Returns the length of the line.").due("jar(0, 900) = 0; bag(5) = 0; line(0) = 3")
            .due("fill(0, 0, 383) = 383; line(0) = 26; sell(0) = 76; line(0) = 3");
        document.says("Throws IndexOutOfBoundsException if there is no such bag")
            .thrownFor(INDEX, "line(#)", 0, -1, 6, LEAST, MOST).due("bag(8) = 0; line(0) = 7")
            .thrownFor(INDEX, "line(#)", -1, 1, LEAST, MOST).same("line", Run.lineOf(document.again().scale), "")
            .due("character(0) = 5");
    }

    private static void character(Document document) {
        document.part("Promise 33: character");
        document.says("Returns a character of the line, which is empty at first.").thrown(INDEX, "character(0)")
            .due("bag(8) = 0").thrown(INDEX, "character(0)").due("line(0) = 7; character(0) = 5; character(1) = +")
            .due("character(5) = =");
        document.says("index: the index, from 0").due("bag(8) = 0; line(0) = 7; character(0) = 5; character(6) = 8")
            .thrownFor(INDEX, "character(#)", -1, 7);
        document.says("Returns the character.").due("jar(2, 900) = 0; bag(12) = 0; fill(0, 0, 113) = 113; line(0) = 12")
            .due("character(2) = 0; character(3) = +; character(8) = =; character(11) = 5; account(14) = 3");
        document.says("Throws IndexOutOfBoundsException if there is no such index")
            .thrownFor(INDEX, "character(#)", -1, 0, LEAST, MOST).due("jar(0, 900) = 0; bag(5) = 0; fill(0, 0, 383) = 383")
            .due("line(0) = 26; character(25) = 8").thrownFor(INDEX, "character(#)", -1, 26, LEAST, MOST)
            .due("sell(0) = 76; character(25) = 8; line(0) = 3; character(2) = 5").thrownFor(INDEX, "character(#)", 3, 25);
    }

    private static void undo(Document document) {
        document.part("Promise 37: undo");
        document.says("Undoes the latest call that can be undone.").due("jar(2, 900) = 0; bag(12) = 0; fill(0, 0, 9) = 9")
            .due("told(0) = 21; save() = 0; line(0) = 7").refused("go(0)", 13, 0)
            .due("undo() = 2; bagOf(0, 3) = 0; jarOf(0, false) = 900").due("undo() = 1; account(5) = 0; account(4) = 1")
            .due("bag(13) = 0; undo() = 1; undo() = 0; account(4) = 0").thrown(INDEX, "jarOf(0, true)");
        document.says("Returns the number of calls that can still be undone.").times(12, "days(1) = 0").due("undo() = 7")
            .due("undo() = 6; days(1) = 0; undo() = 6; undo() = 5; undo() = 4; undo() = 3; undo() = 2; undo() = 1")
            .due("undo() = 0; account(0) = 4");
        document.says("Throws IllegalStateException if there is none").thrown(STATE, "undo()").due("days(1) = 0; undo() = 0")
            .thrown(STATE, "undo()").due("days(1) = 0; save() = 1; restore() = 1").thrown(STATE, "undo()")
            .times(8, "days(1) = 0")
            .times(1, "undo() = 7; undo() = 6; undo() = 5; undo() = 4; undo() = 3; undo() = 2; undo() = 1; undo() = 0")
            .thrown(STATE, "undo()", "undo()").due("account(0) = 1");
    }

    private static void save(Document document) {
        document.part("Promise 38: save");
        Run all = document.says("Saves all that can be undone, in place of an earlier snapshot.").due("save() = 0")
            .due("jar(2, 900) = 0; jar(1, 30) = 1; bag(12) = 0; bag(9) = 1; fill(0, 0, 113) = 113; thumb(3) = 0")
            .times(8, "weigh(1) = 12").due("weigh(1) = 13; sell(0) = 92; thumb(0) = 3; fill(1, 1, 7) = 7; oath() = 19")
            .due("go(1) = 3; thumb(8) = 0; seal(0) = 0; beat(0) = 3; account(14) = 8");
        String saved = Run.stateOf(all.scale);
        all.due("save() = 3; account(14) = 8");
        String[] calls = {
            "bag(9)", "jar(0, 1)", "thumb(9)", "weigh(1)", "sell(1)", "thumb(0)", "oath()", "go(0)", "fill(0, 0, 9)", "beat(1)",
            "seal(1)", "days(60)", "undo()", "undo()",
        };
        for (String call : calls) {
            all.same(call + " succeeds", Run.answer(all.scale, call).startsWith("throws"), false);
        }
        all.due("restore() = 3").sameState("what was saved", Run.stateOf(all.scale), saved);
        document.again().due("days(1) = 0; save() = 1; days(1) = 0; save() = 2; days(1) = 0; restore() = 2")
            .due("undo() = throws IllegalStateException; restore() = 2; account(0) = 2");
        document.says("Returns the day.").due("save() = 0; days(60) = 0; save() = 60; go(3) = 72; save() = 72; undo() = 1")
            .due("save() = 60; restore() = 60");
    }

    private static void restore(Document document) {
        document.part("Promise 39: restore");
        document.says("Restores what was saved; the snapshot is kept.").due("bag(9) = 0; days(3) = 3; save() = 3")
            .due("weigh(0) = 12; bag(8) = 1; restore() = 3; account(5) = 1; bagOf(0, 5) = 0; bagOf(0, 1) = 3")
            .due("account(14) = 0").due("weigh(0) = 12; beat(0) = 3; restore() = 3; bagOf(0, 5) = 0; bagOf(0, 1) = 3")
            .due("weightOf(3, 2) = 0; restore() = 3; account(14) = 0").thrown(STATE, "undo()");
        document.again().due("jar(3, 9) = 0; bag(20) = 0; save() = 0; undo() = 1; undo() = 0; jar(1, 5) = 0; bag(6) = 0")
            .due("jar(2, 4) = 1; bag(7) = 1; restore() = 0; account(4) = 1; account(5) = 1; jarOf(0, true) = 3")
            .due("jarOf(0, false) = 9; bagOf(0, 0) = 20; jar(0, 1) = 1; bag(8) = 1; bagOf(1, 0) = 8; jarOf(1, false) = 1");
        document.says("Returns the day.").due("save() = 0; days(9) = 0; restore() = 0; account(0) = 0; days(60) = 0")
            .due("save() = 60; days(1) = 0; restore() = 60");
        document.says("Throws IllegalStateException if there is no snapshot").thrown(STATE, "restore()")
            .due("bag(5) = 0; undo() = 0").thrown(STATE, "restore()").due("save() = 0; restore() = 0; restore() = 0");
    }
}
