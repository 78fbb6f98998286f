/** Promises 8, 12, 16 to 21, 32 and 33: weights, what the scale tells, and the line. */
public final class WeighingTest {
    public static void main(String[] args) {
        newWeights();
        tellingOfABag();
        gaps();
        shortWeights();
        mostShortness();
        mostShortnessOfEach();
        usesCount();
        sealing();
        lines();
        Run.end();
    }

    private static void newWeights() {
        new Run("new weights")
            .due("weightOf(0, 0) = 1; weightOf(1, 0) = 2; weightOf(2, 0) = 5; weightOf(3, 0) = 10")
            .due("weightOf(4, 0) = 20; weightOf(5, 0) = 50; weightOf(6, 0) = 100; weightOf(7, 0) = 200")
            .due("weightOf(0, 1) = 0; weightOf(7, 1) = 0; weightOf(0, 2) = 0; weightOf(7, 2) = 0")
            .due("weightOf(0, 3) = -1; weightOf(1, 3) = -1; weightOf(2, 3) = -1; weightOf(3, 3) = 8; weightOf(7, 3) = 8")
            .thrown("IndexOutOfBoundsException", "weightOf(-1, 0)", "weightOf(8, 0)", "weightOf(8, 4)", "weightOf(-1, -1)")
            .thrown("IllegalArgumentException", "weightOf(0, -1)", "weightOf(7, 4)", "weightOf(0, -2147483648)");
    }

    private static void tellingOfABag() {
        new Run("telling of a bag")
            .due("jar(2, 900) = 0; bag(12) = 0; bag(5) = 1; fill(0, 0, 113) = 113; days(2) = 4; thumb(3) = 0")
            .due("told(0) = 130; toldAgain(0) = 130; onPan(0) = 88; rest(0) = 0; honest(0) = 125")
            .due("told(1) = 10; toldAgain(1) = 10; onPan(1) = 8; rest(1) = 0; honest(1) = 5; account(14) = 6")
            .thrown("IndexOutOfBoundsException", "told(2)", "told(-1)", "toldAgain(2)", "toldAgain(-1)")
            .thrown("IndexOutOfBoundsException", "onPan(2)", "onPan(-1)", "rest(2)", "rest(-1)", "honest(2)", "honest(-1)");
        new Run("more than all weights")
            .due("jar(2, 900) = 0; bag(50) = 0; fill(0, 0, 400) = 400; days(60) = 20; thumb(30) = 0")
            .due("bagOf(0, 4) = 500; told(0) = 388; toldAgain(0) = 388; onPan(0) = 255; rest(0) = 112; honest(0) = 388");
    }

    /** Of each weight there is one: 1, 2 and 5 do not reach 9, nor 1 to 20 a load of 46. */
    private static void gaps() {
        new Run("gaps")
            .due("jar(2, 900) = 0; bag(8) = 0; fill(0, 0, 1) = 1; told(0) = 8; rest(0) = 1; onPan(0) = 7")
            .due("bag(45) = 1; fill(1, 0, 1) = 1; told(1) = 38; toldAgain(1) = 38; rest(1) = 8; onPan(1) = 31")
            .due("weigh(1) = 38; weightOf(5, 2) = 0; weightOf(4, 2) = 1; weightOf(0, 2) = 1; bagOf(1, 5) = 1");
    }

    private static void shortWeights() {
        new Run("short weights")
            .due("jar(4, 900) = 0; bag(20) = 0; fill(0, 0, 80) = 80").times(7, "weigh(0) = 100")
            .due("weightOf(6, 1) = 0; weightOf(6, 2) = 7; weightOf(6, 3) = 1; account(13) = 0; weigh(0) = 100")
            .due("weightOf(6, 1) = 1; weightOf(6, 2) = 8; weightOf(6, 3) = 8; weightOf(6, 0) = 100; account(13) = 1")
            .due("told(0) = 101; toldAgain(0) = 101; onPan(0) = 65; rest(0) = 0; honest(0) = 101")
            .due("weigh(0) = 101; weightOf(6, 3) = 7; weightOf(0, 2) = 1; weightOf(5, 2) = 0")
            .due("thumb(1) = 0; told(0) = 102; toldAgain(0) = 102; rest(0) = 0; honest(0) = 101; onPan(0) = 66")
            .due("thumb(8) = 1; told(0) = 108; toldAgain(0) = 108; rest(0) = 1; onPan(0) = 71");
        new Run("a sale uses the weights, too")
            .due("jar(2, 900) = 0; bag(12) = 0; fill(0, 0, 113) = 113; sell(0) = 90; weightOf(2, 2) = 1")
            .due("weightOf(4, 2) = 1; weightOf(6, 2) = 1; weightOf(0, 2) = 0; weightOf(7, 2) = 0; bagOf(0, 5) = 1")
            .refused("weigh(1)", 3, 1).refused("weigh(-1)", 3, -1)
            .due("weigh(0) = 12; weightOf(3, 2) = 1; weightOf(1, 2) = 1; bagOf(0, 5) = 2");
    }

    private static void mostShortness() {
        new Run("not by more than a tenth")
            .due("bag(18) = 0").times(8, "weigh(0) = 18")
            .due("weightOf(3, 1) = 1; weightOf(3, 3) = -1; weightOf(0, 1) = 0; weightOf(1, 1) = 0; weightOf(2, 1) = 0")
            .due("told(0) = 18; rest(0) = 1; honest(0) = 18; toldAgain(0) = 18").times(8, "weigh(0) = 18")
            .due("weightOf(3, 1) = 1; weightOf(3, 2) = 16; weightOf(3, 3) = -1; weightOf(2, 2) = 16; weightOf(2, 1) = 0")
            .due("seal(3) = 1; weightOf(3, 2) = 0; weightOf(3, 1) = 0; weightOf(3, 3) = 8; rest(0) = 0");
        Run heavy = new Run("the heaviest weight").due("jar(0, 900) = 0; bag(5) = 0; fill(0, 0, 195) = 195");
        for (int weighing = 0; weighing < 168; weighing++) {
            heavy.scale.weigh(0);
        }
        heavy.due("weightOf(7, 2) = 168; weightOf(7, 1) = 20; weightOf(7, 3) = -1; account(13) = 22")
            .due("told(0) = 221; toldAgain(0) = 221; rest(0) = 0; onPan(0) = 145");
    }

    /** The weight alone holds the load at first, so that it is used each time. */
    private static void mostShortnessOfEach() {
        int[] tares = {10, 20, 50, 50, 50};
        int[] grains = {0, 0, 0, 50, 150};
        int[] most = {1, 2, 5, 10, 20};
        for (int i = 0; i < 5; i++) {
            int weight = 3 + i;
            Run run = new Run("the most shortness of weight " + weight).due("jar(0, 900) = 0; bag(" + tares[i] + ") = 0");
            if (grains[i] > 0) {
                run.due("fill(0, 0, " + grains[i] + ") = " + grains[i]);
            }
            for (int shortness = 0; shortness < most[i]; shortness++) {
                run.due("weightOf(" + weight + ", 1) = " + shortness + "; weightOf(" + weight + ", 3) = 8");
                for (int use = 0; use < 7; use++) {
                    run.scale.weigh(0);
                }
                run.due("weightOf(" + weight + ", 1) = " + shortness + "; weightOf(" + weight + ", 3) = 1").scale.weigh(0);
            }
            for (int use = 0; use < 9; use++) {
                run.due("weightOf(" + weight + ", 1) = " + most[i] + "; weightOf(" + weight + ", 3) = -1").scale.weigh(0);
            }
            run.due("weightOf(" + weight + ", 2) = " + (8 * most[i] + 9)).due("seal(" + weight + ") = " + most[i]);
        }
    }

    private static void usesCount() {
        new Run("uses").due("jar(0, 900) = 0; bag(50) = 0; fill(0, 0, 400) = 400").times(20, "weigh(0) = 388")
            .due("weightOf(0, 1) = 0; weightOf(2, 1) = 0; weightOf(3, 1) = 1; weightOf(4, 1) = 2; weightOf(5, 1) = 2")
            .due("weightOf(4, 3) = -1; weightOf(5, 3) = 4; weightOf(6, 3) = 4; weightOf(7, 2) = 20; account(13) = 9")
            .due("rest(0) = 71; toldAgain(0) = 388; bagOf(0, 5) = 20; account(14) = 8");
    }

    private static void sealing() {
        new Run("sealing").refused("seal(8)", 3, 8).refused("seal(-1)", 3, -1)
            .due("seal(0) = 0; account(2) = 18; account(14) = 1").times(9, "seal(7) = 0")
            .due("account(2) = 0").refused("seal(0)", 12, 2).refused("seal(9)", 3, 9)
            .due("jar(2, 9) = 0; bag(5) = 0; fill(0, 0, 2) = 2; sell(0) = 1; account(2) = 1").refused("seal(1)", 12, 1)
            .due("fill(0, 0, 2) = 2; sell(0) = 1; seal(2) = 0; account(2) = 0; weightOf(2, 2) = 0; weightOf(1, 2) = 2");
    }

    private static void lines() {
        new Run("lines").due("jar(2, 900) = 0; bag(12) = 0; bag(5) = 1; bag(50) = 2; fill(0, 0, 113) = 113")
            .thrown("IndexOutOfBoundsException", "character(0)", "character(-1)", "line(3)", "line(-1)")
            .lineIs(0, "100+20+5=125").due("character(0) = 1; character(3) = +; character(8) = =; character(11) = 5")
            .thrown("IndexOutOfBoundsException", "character(12)", "character(-1)", "character(2147483647)", "line(3)")
            .lineIs(1, "5=5").thrown("IndexOutOfBoundsException", "character(3)")
            .due("fill(2, 0, 400) = 400; character(0) = 5").lineIs(2, "200+100+50+20+10+5+2+1=388")
            .due("undo() = 5; character(0) = 2; save() = 0; restore() = 0; character(25) = 8");
        new Run("a line of short weights").due("jar(4, 900) = 0; bag(20) = 0; fill(0, 0, 80) = 80")
            .times(8, "weigh(0) = 100").lineIs(0, "100+1=101");
    }
}
