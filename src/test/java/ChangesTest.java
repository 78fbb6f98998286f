/** Promises 36 to 39: accounts, undo, and the snapshot. */
public final class ChangesTest {
    private static final String[] CHANGES = {
        "jar(1, 300)", "bag(33)", "fill(0, 0, 50)", "empty(0, 0)", "beat(0)", "thumb(4)", "weigh(0)", "sell(0)", "oath()",
        "go(1)", "seal(6)", "days(3)",
    };

    public static void main(String[] args) {
        accounts();
        eachChangeIsUndone();
        theLatestEight();
        undoAndChange();
        snapshots();
        snapshotHoldsAll();
        Run.end();
    }

    private static void accounts() {
        new Run("accounts").due("jar(2, 900) = 0; jar(3, 40) = 1; bag(12) = 0; bag(13) = 1; bag(14) = 2")
            .due("fill(0, 0, 113) = 113; fill(1, 1, 30) = 30; sell(0) = 90; oath() = 19; go(1) = 3; thumb(3) = 0")
            .text("n1;")
            .due("account(0) = 3; account(1) = 1; account(2) = 110; account(3) = 3; account(4) = 2; account(5) = 3")
            .due("account(6) = 797; account(7) = 30; account(8) = 113; account(9) = 113; account(10) = 1")
            .due("account(11) = 90; account(12) = 1; account(13) = 0; account(14) = 8; account(15) = 3")
            .due("seal(0) = 0; account(2) = 108; account(11) = 90")
            .thrown("IllegalArgumentException", "account(-1)", "account(16)", "account(2147483647)", "account(-2147483648)");
    }

    private static Run prepared(String title) {
        return new Run(title).due("jar(1, 800) = 0; bag(20) = 0; fill(0, 0, 90) = 90; days(7) = 7; thumb(3) = 0")
            .times(8, "weigh(0) = 120").due("weigh(0) = 122; thumb(0) = 3; account(14) = 8; account(13) = 2");
    }

    private static void eachChangeIsUndone() {
        for (String change : CHANGES) {
            Run run = prepared("undo of " + change);
            String before = Run.stateOf(run.scale);
            String answer = Run.answer(run.scale, change);
            run.same(change + ": something changes", Run.stateOf(run.scale).equals(before), false)
                .due("undo() = 7").sameState(change + ": undone", Run.stateOf(run.scale), before)
                .same(change + " again", Run.answer(run.scale, change), answer)
                .due("account(14) = 8");
        }
        Run run = prepared("undo of commands");
        String before = Run.stateOf(run.scale);
        run.done("f0<0+9;w0;n5;t4;s0;b0;x7;g2;t0;o", 10).due("undo() = 7").sameState("undone", Run.stateOf(run.scale), before);
    }

    private static void theLatestEight() {
        new Run("the latest eight").due("bag(5) = 0; account(14) = 1; days(1) = 1; days(1) = 2; days(1) = 3; days(1) = 4")
            .due("days(1) = 5; days(1) = 6; account(14) = 7; days(1) = 7; account(14) = 8; days(1) = 8; account(14) = 8")
            .due("days(1) = 9; account(14) = 8; undo() = 7; account(14) = 7; account(0) = 8; undo() = 6; undo() = 5")
            .due("undo() = 4; undo() = 3; undo() = 2; undo() = 1; account(0) = 2; undo() = 0; account(0) = 1; bagOf(0, 1) = 1")
            .thrown("IllegalStateException", "undo()").due("account(14) = 0; account(5) = 1");
        Run many = new Run("many changes");
        for (int day = 0; day < 30; day++) {
            many.scale.days(1);
        }
        many.due("undo() = 7; undo() = 6; undo() = 5; days(2) = 0; account(0) = 29; account(14) = 6; undo() = 5")
            .due("account(0) = 27; undo() = 4; account(0) = 26").times(4, "days(1) = 0")
            .due("account(14) = 8; days(1) = 0; account(14) = 8; undo() = 7; account(0) = 30; undo() = 6; account(0) = 29");
    }

    private static void undoAndChange() {
        new Run("undo and change").due("bag(5) = 0; bag(6) = 1; undo() = 1; bag(7) = 1; bagOf(1, 0) = 7; undo() = 1; undo() = 0")
            .due("account(5) = 0; jar(3, 9) = 0; jar(4, 8) = 1; undo() = 1; jar(2, 7) = 1; jarOf(1, true) = 2; jarOf(1, false) = 7");
        new Run("queries cannot be undone").due("bag(5) = 0; told(0) = 5; line(0) = 3; append('o') = 1; save() = 0")
            .due("account(14) = 1; undo() = 0; account(15) = 1; character(0) = 5");
        new Run("a bag that is added again is new").due("bag(5) = 0; jar(2, 100) = 0; bag(6) = 1; fill(1, 0, 9) = 9; days(3) = 6")
            .due("weigh(1) = 18; undo() = 5; undo() = 4; undo() = 3; undo() = 2; bag(30) = 1; bagOf(1, 1) = 0; bagOf(1, 2) = -1")
            .due("bagOf(1, 3) = 0; bagOf(1, 5) = 0; bagOf(1, 0) = 30");
    }

    private static void snapshots() {
        new Run("snapshots").thrown("IllegalStateException", "restore()").due("days(4) = 0; save() = 4; account(14) = 1")
            .due("days(5) = 0; bag(9) = 0; restore() = 4; account(0) = 4; account(5) = 0; account(14) = 0")
            .thrown("IllegalStateException", "undo()").due("days(5) = 0; account(14) = 1; undo() = 0; account(0) = 4")
            .due("days(50) = 0; restore() = 4; account(14) = 0; days(3) = 0; save() = 7; days(1) = 0; restore() = 7")
            .due("restore() = 7; account(0) = 7");
        new Run("undo leaves the snapshot").due("days(4) = 0; days(1) = 0; save() = 5; undo() = 1; undo() = 0; restore() = 5");
        new Run("other jars and bags behind the snapshot").due("jar(3, 9) = 0; bag(20) = 0; save() = 0; undo() = 1; undo() = 0")
            .due("jar(1, 5) = 0; bag(6) = 0; restore() = 0; jarOf(0, true) = 3; jarOf(0, false) = 9; bagOf(0, 0) = 20");
        new Run("a snapshot of a new object").due("save() = 0; bag(9) = 0; restore() = 0; account(5) = 0; bag(8) = 0")
            .due("bagOf(0, 0) = 8");
    }

    private static void snapshotHoldsAll() {
        Run run = prepared("a snapshot holds all").due("sell(0) = 49; fill(0, 0, 13) = 13; oath() = 26; seal(3) = 0; go(2) = 14");
        String saved = Run.stateOf(run.scale);
        run.due("save() = 14");
        for (String change : CHANGES) {
            Run.answer(run.scale, change);
        }
        run.due("restore() = 14").sameState("restored", Run.stateOf(run.scale), saved);
        run.due("weigh(0) = 38; undo() = 0").sameState("undone behind restore", Run.stateOf(run.scale), saved);
        run.due("days(1) = 15; restore() = 14").sameState("restored again", Run.stateOf(run.scale), saved);
    }
}
