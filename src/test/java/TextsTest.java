/** Promises 28 to 31: the text buffer, its commands, its faults, and the reason that is kept. */
public final class TextsTest {
    private static final String DIGITS = "0123456789";

    public static void main(String[] args) {
        faults();
        allCharacters();
        longTexts();
        textsBehindLongerOnes();
        commandsAsMethods();
        numbersInTexts();
        refusedTexts();
        whatStays();
        reasons();
        Run.end();
    }

    private static void faults() {
        Run run = new Run("faults").due("bag(9) = 0; jar(1, 100) = 0; fill(0, 0, 50) = 50");
        run.faulty("", 0).faulty(";", 0).faulty(";o", 0).faulty("o;", 2).faulty("o;;o", 2).faulty("oo", 1).faulty("o1", 1)
            .faulty("o ", 1).faulty(" o", 0).faulty("O", 0).faulty("B9", 0).faulty("J1", 0).faulty("j1", 0).faulty("1", 0)
            .faulty("f", 1).faulty("fx", 1).faulty("f0", 2).faulty("f0>", 2).faulty("f00", 2).faulty("f0<", 3)
            .faulty("f0<+", 3).faulty("f0<0", 4).faulty("f0<0;", 4).faulty("f0<00", 4).faulty("f0<0+", 5)
            .faulty("f0<0+;", 5).faulty("f0<0+1234", 8).faulty("f0<0+1x", 6).faulty("f0<0+1+", 6).faulty("f0<0-1", 4)
            .faulty("f0<0+-1", 5).faulty("e", 1).faulty("e>", 1).faulty("e0", 2).faulty("e0<0", 2).faulty("e0>", 3)
            .faulty("e0>x", 3).faulty("e0>0+", 4).faulty("e0>00", 4)
            .faulty("t", 1).faulty("t;", 1).faulty("t123", 3).faulty("t1x", 2).faulty("t-1", 1)
            .faulty("n", 1).faulty("n;", 1).faulty("n123", 3).faulty("n1x", 2);
        for (char letter : "bwsgx".toCharArray()) {
            run.faulty("" + letter, 1).faulty(letter + ";", 1).faulty(letter + "00", 2).faulty(letter + "0;", 3)
                .faulty(letter + "a", 1).faulty(letter + "0 ", 2);
        }
        run.faulty("w0;w0;w0,w0", 8).faulty("w0;s0;e0>", 9).faulty("w0;f0<0+12;t3;t345", 17).faulty("w9;w", 4)
            .due("account(14) = 3; bagOf(0, 5) = 0").thrown("NoSuchElementException", "reason(0)");
    }

    /** Every character that stands first, and every one behind a letter, a number and a command. */
    private static void allCharacters() {
        Run run = new Run("all characters");
        for (int code = 0; code <= 0xffff; code = code < 300 ? code + 1 : code + 257) {
            char character = (char) code;
            boolean isDigit = DIGITS.indexOf(character) >= 0;
            if (character != 'o') {
                run.faulty("" + character, "febwstgxn".indexOf(character) >= 0 ? 1 : 0);
                run.faulty("t1;" + character, "febwstgxn".indexOf(character) >= 0 ? 4 : 3);
            }
            if (!isDigit) {
                run.faulty("n" + character, 1);
                run.faulty("n7" + character, character == ';' ? 3 : 2);
                run.faulty("w" + character, 1);
            }
            run.faulty("o" + character, character == ';' ? 2 : 1);
            run.faulty("e1" + character, character == '>' ? 3 : 2);
            run.faulty("f1" + character, character == '<' ? 3 : 2);
            run.faulty("f1<2" + character, character == '+' ? 5 : 4);
        }
    }

    private static void longTexts() {
        String beats = "t10;b0" + ";b0".repeat(18);
        new Run("a long text").due("bag(5) = 0").text(beats).due("account(15) = 60")
            .thrown("IllegalStateException", "append('o')", "append('x')").due("commands() = 20; account(15) = 0")
            .due("append('o') = 1; account(15) = 1; account(14) = 2");
        new Run("a long text that ends too early").faulty("g1;" + "o;".repeat(28) + "w", 60);
        new Run("sixty faults").faulty("?".repeat(60), 0).faulty("t1;".repeat(20), 60);
        new Run("the most commands").refusedText("o" + ";o".repeat(29), 8, 20, 1);
    }

    /** What an earlier text left behind the end of a shorter one must not be read. */
    private static void textsBehindLongerOnes() {
        Run run = new Run("texts behind longer ones").due("jar(1, 100) = 0; jar(1, 100) = 1; bag(5) = 0");
        run.done("f0<0+10;e0>1", 2).faulty("f0", 2).faulty("f0<0", 4).faulty("f0<0+10;e0", 10).faulty("f0<0+10;", 8)
            .done("f0<0+1", 1).due("bagOf(0, 3) = 1").done("n60;o", 2).done("n6", 1).due("account(0) = 66")
            .faulty("t1;".repeat(19) + "e0", 59).faulty("o;" + "t1;".repeat(18) + "f0<0", 60).faulty("o;o;" + "t1;".repeat(18) + "e0", 60);
    }

    private static void commandsAsMethods() {
        new Run("commands as methods").due("jar(1, 900) = 0; jar(1, 0) = 1; bag(10) = 0; bag(15) = 1")
            .done("f0<0+90", 1).due("bagOf(0, 3) = 90; jarOf(0, false) = 810; account(14) = 5")
            .done("f1<0+009;e1>1", 2).due("jarOf(1, false) = 9; bagOf(1, 3) = 0; account(14) = 6")
            .done("n60", 1).due("account(0) = 60; bagOf(0, 1) = 20").done("b0;b1", 2).due("bagOf(0, 1) = 0; bagOf(1, 1) = 0")
            .done("w0;w0;w1", 3).due("bagOf(0, 5) = 2; bagOf(1, 5) = 1; weightOf(6, 2) = 2; account(14) = 8")
            .done("t04", 1).due("account(3) = 4").done("t3;s0", 2).due("account(2) = 66; account(10) = 1; account(3) = 3")
            .done("t0;o", 2).due("oathUntil(0) = 79; account(3) = 0").done("g2;g1", 2).due("account(1) = 1; account(0) = 71")
            .done("x6;x7", 2).due("account(2) = 62; weightOf(6, 2) = 0; account(14) = 8")
            .done("n1;n01;n10", 3).due("account(0) = 83");
        new Run("commands one behind the other").due("jar(2, 900) = 0; bag(12) = 0")
            .done("f0<0+113;t3;s0;f0<0+400;g3;s0;b0;x0", 8)
            .due("account(0) = 12; account(2) = 185; account(8) = 513; account(10) = 2; bagOf(0, 1) = 0; undo() = 2")
            .due("account(0) = 0; account(2) = 20; account(8) = 0; bagOf(0, 3) = 0; account(3) = 0");
    }

    private static void numbersInTexts() {
        new Run("numbers in texts").due("jar(2, 900) = 0; bag(12) = 0; bag(13) = 1; jar(3, 800) = 1; jar(3, 700) = 2")
            .refusedText("f2<0+1", 3, 2, 0).refusedText("f0<3+1", 3, 3, 0).refusedText("f9<8+1", 3, 9, 0)
            .refusedText("f0<0+0", 1, 0, 0).refusedText("f0<0+401", 1, 0, 0).refusedText("f0<0+000", 1, 0, 0)
            .refusedText("t31", 1, 0, 0).refusedText("n0", 1, 0, 0).refusedText("n00", 1, 0, 0).refusedText("n61", 1, 0, 0)
            .refusedText("g4", 3, 4, 0).refusedText("g0", 13, 0, 0).refusedText("x8", 3, 8, 0).refusedText("w2", 3, 2, 0)
            .refusedText("s7", 3, 7, 0).refusedText("b2", 3, 2, 0).refusedText("e0>9", 3, 9, 0).refusedText("e1>0", 6, 1, 0)
            .done("f1<2+400", 1).due("bagOf(1, 3) = 400; bagOf(1, 2) = 3; jarOf(2, false) = 300; jarOf(1, false) = 800")
            .done("e1>2", 1).due("jarOf(2, false) = 700").done("x7;t30;g3", 3).due("account(1) = 3; account(3) = 30");
    }

    private static void refusedTexts() {
        new Run("refused texts").due("jar(2, 900) = 0; bag(12) = 0; bag(9) = 1; thumb(2) = 0")
            .refusedText("f0<0+9;w0;s0;s1", 6, 1, 3).refusedText("n5;g3;t7;oo".substring(0, 10), 9, 7, 3)
            .refusedText("g1;n9;g1", 13, 1, 2).refusedText("w0;w9", 3, 9, 1).refusedText("x1;t0;o;t1", 8, 20, 3)
            .refusedText("f0<0+400;f0<0+1", 7, 0, 1).refusedText("t0;o;n19;o", 8, 1, 3)
            .due("account(14) = 4; account(15) = 0").done("t0;o;n20;o", 4);
        Run full = new Run("a refused text keeps what can be undone").due("days(1) = 0; days(2) = 0; days(3) = 0; days(4) = 0")
            .due("days(5) = 0; days(6) = 0; days(7) = 0; days(8) = 0; account(14) = 8");
        full.refusedText("n9;n0", 1, 0, 1).refusedText("n9;n9;g0", 13, 0, 2).faulty("n9;", 3)
            .due("undo() = 7; account(0) = 28; undo() = 6; undo() = 5; undo() = 4; undo() = 3; undo() = 2; undo() = 1")
            .due("account(0) = 1; undo() = 0; account(0) = 0").thrown("IllegalStateException", "undo()");
    }

    private static void whatStays() {
        new Run("what stays").due("bag(9) = 0").faulty("n1;?", 3).due("undo() = 0; faultPosition() = 3; save() = 0")
            .due("restore() = 0; faultPosition() = 3").text("n1").due("days(1) = 0; undo() = 0; account(15) = 2; restore() = 0")
            .due("account(15) = 2; faultPosition() = 3; commands() = 1; faultPosition() = -1; account(0) = 1")
            .faulty("x", 1).due("append('o') = 1; faultPosition() = 1").due("commands() = 1; faultPosition() = -1")
            .faulty("", 0).refusedText("o", 8, 20, 0);
    }

    private static void reasons() {
        new Run("reasons").thrown("IllegalArgumentException", "reason(-1)", "reason(3)", "reason(2147483647)")
            .thrown("NoSuchElementException", "reason(0)", "reason(1)", "reason(2)")
            .refusedText("n1;n1;b4", 3, 4, 2).due("days(1) = 0").reasonIs(3, 4, 2).faulty("?", 0).reasonIs(3, 4, 2)
            .due("undo() = 0; save() = 0; restore() = 0").reasonIs(3, 4, 2)
            .refused("go(0)", 13, 0).thrown("IllegalArgumentException", "reason(-1)", "reason(3)")
            .thrown("IllegalStateException", "undo()").reasonIs(13, 0, 0).refused("days(0)", 1, 0);
    }
}
