import java.lang.reflect.InvocationTargetException;
import java.lang.reflect.Method;
import java.util.ArrayList;
import java.util.List;

/**
 * A run of calls on a new SpiceScale, written as the document writes its examples:
 * due("jar(2, 900) = 0; bag(12) = 0; undo() = 1; restore() = throws IllegalStateException").
 * What is not as due is printed and counted; end() closes a test.
 *
 * The looks at the whole state take an object far beyond its 512 calls. What is promised is not
 * what is relied on there: the program counts no calls.
 */
final class Run {
    private static int wrong = 0;
    private static int checked = 0;

    final SpiceScale scale = new SpiceScale();
    private final String title;

    Run(String title) {
        this.title = title;
    }

    Run due(String calls) {
        for (String call : calls.split("; ")) {
            String[] sides = call.split(" = ", 2);
            dueOne(sides[0].trim(), sides[1].trim());
        }
        return this;
    }

    Run times(int count, String calls) {
        for (int i = 0; i < count; i++) {
            due(calls);
        }
        return this;
    }

    /** A call that is refused, leaves all as it was, and keeps the reason. */
    Run refused(String call, int reason, int detail) {
        String before = wholeOf(scale);
        dueOne(call, "throws UnsupportedOperationException");
        sameState(call + ": state behind it", wholeOf(scale), before);
        return reasonIs(reason, detail, 0);
    }

    /** A call that throws the exception and leaves all as it was. */
    Run thrown(String exception, String... calls) {
        for (String call : calls) {
            String before = wholeOf(scale) + reasonOf(scale);
            dueOne(call, "throws " + exception);
            sameState(call + ": state behind it", wholeOf(scale) + reasonOf(scale), before);
        }
        return this;
    }

    /** The call with each of the numbers in place of its #, refused for one reason with one detail. */
    Run refusedFor(String call, int reason, int detail, int... numbers) {
        for (int number : numbers) {
            refused(call.replace("#", "" + number), reason, detail);
        }
        return this;
    }

    /** The same for the reason 3: there is none of that number. */
    Run missingFor(String call, int... numbers) {
        for (int number : numbers) {
            refused(call.replace("#", "" + number), 3, number);
        }
        return this;
    }

    /** The same for an exception. */
    Run thrownFor(String exception, String call, int... numbers) {
        for (int number : numbers) {
            thrown(exception, call.replace("#", "" + number));
        }
        return this;
    }

    Run reasonIs(int reason, int detail, int command) {
        return due("reason(0) = " + reason + "; reason(1) = " + detail + "; reason(2) = " + command);
    }

    Run text(String text) {
        for (int i = 0; i < text.length(); i++) {
            int before = scale.account(15);
            same("append to \"" + text + "\"", scale.append(text.charAt(i)), before + 1);
        }
        return this;
    }

    Run done(String text, int commands) {
        return text(text).due("commands() = " + commands + "; account(15) = 0; faultPosition() = -1");
    }

    Run faulty(String text, int position) {
        text(text);
        String before = stateOf(scale) + reasonOf(scale);
        dueOne("commands()", "throws IllegalArgumentException");
        sameState("\"" + text + "\": state behind it", stateOf(scale) + reasonOf(scale), before);
        same("\"" + text + "\": fault position", scale.faultPosition(), position);
        return due("account(15) = 0");
    }

    Run refusedText(String text, int reason, int detail, int command) {
        text(text);
        String before = stateOf(scale) + scale.account(14);
        dueOne("commands()", "throws UnsupportedOperationException");
        sameState("\"" + text + "\": state behind it", stateOf(scale) + scale.account(14), before);
        return due("account(15) = 0; faultPosition() = -1").reasonIs(reason, detail, command);
    }

    Run lineIs(int bag, String line) {
        return due("line(" + bag + ") = " + line.length()).same("line", lineOf(scale), line);
    }

    Run same(String what, Object got, Object want) {
        checked++;
        if (!want.equals(got)) {
            wrong++;
            System.out.println(title + ": " + what + " answered " + got + ", due is " + want);
        }
        return this;
    }

    /** Tells only the answers that differ. */
    Run sameState(String what, String got, String want) {
        String[] gotLines = got.split("\n");
        String[] wantLines = want.split("\n");
        for (int i = 0; i < gotLines.length && i < wantLines.length; i++) {
            same(what, gotLines[i], wantLines[i]);
        }
        return same(what + ": number of answers", gotLines.length, wantLines.length);
    }

    static void end() {
        System.out.println(checked + " answers looked at, " + wrong + " not as due");
        if (wrong != 0) {
            System.exit(1);
        }
    }

    private void dueOne(String call, String want) {
        same(call, answer(scale, call), want);
    }

    /** The answer of a call as a text, or "throws " and the name of the exception. */
    static String answer(SpiceScale scale, String call) {
        int open = call.indexOf('(');
        Method method = methodOf(call.substring(0, open));
        String inside = call.substring(open + 1, call.length() - 1).trim();
        String[] texts = inside.isEmpty() ? new String[0] : inside.split(", ");
        Object[] values = new Object[texts.length];
        for (int i = 0; i < texts.length; i++) {
            values[i] = valueOf(texts[i], method.getParameterTypes()[i]);
        }
        return answer(scale, method, values);
    }

    static String answer(SpiceScale scale, Method method, Object... values) {
        try {
            return String.valueOf(method.invoke(scale, values));
        } catch (InvocationTargetException e) {
            return "throws " + e.getCause().getClass().getSimpleName();
        } catch (IllegalAccessException e) {
            throw new IllegalStateException(e);
        }
    }

    static Method methodOf(String name) {
        for (Method method : SpiceScale.class.getMethods()) {
            if (method.getDeclaringClass() == SpiceScale.class && method.getName().equals(name)) {
                return method;
            }
        }
        throw new IllegalStateException("no method " + name);
    }

    private static Object valueOf(String text, Class<?> type) {
        if (type == boolean.class) {
            return Boolean.valueOf(text);
        }
        if (type == char.class) {
            return text.charAt(1);
        }
        return Integer.valueOf(text);
    }

    static String lineOf(SpiceScale scale) {
        StringBuilder line = new StringBuilder();
        for (int i = 0; i < 100; i++) {
            try {
                line.append(scale.character(i));
            } catch (IndexOutOfBoundsException e) {
                break;
            }
        }
        return line.toString();
    }

    static String reasonOf(SpiceScale scale) {
        return answer(scale, "reason(0)") + " " + answer(scale, "reason(1)") + " " + answer(scale, "reason(2)");
    }

    /** All answers that tell of what can be undone. */
    static String stateOf(SpiceScale scale) {
        List<String> calls = new ArrayList<>();
        for (int account = 0; account <= 13; account++) {
            calls.add("account(" + account + ")");
        }
        for (int jar = 0; jar <= 6; jar++) {
            calls.add("jarOf(" + jar + ", true)");
            calls.add("jarOf(" + jar + ", false)");
        }
        for (int bag = 0; bag <= 6; bag++) {
            for (int what = 0; what <= 5; what++) {
                calls.add("bagOf(" + bag + ", " + what + ")");
            }
            for (String query : List.of("told", "toldAgain", "onPan", "rest", "honest", "bestMarket", "ranked")) {
                calls.add(query + "(" + bag + ")");
            }
            for (int market = 0; market <= 3; market++) {
                calls.add("wouldGet(" + bag + ", " + market + ")");
            }
        }
        for (int weight = 0; weight <= 7; weight++) {
            for (int what = 0; what <= 3; what++) {
                calls.add("weightOf(" + weight + ", " + what + ")");
            }
        }
        for (int market = 0; market <= 3; market++) {
            calls.add("oathUntil(" + market + ")");
            calls.add("isNoticed(" + market + ")");
        }
        calls.add("meanDust()");
        calls.add("honestShare()");
        StringBuilder state = new StringBuilder();
        for (String call : calls) {
            state.append(call).append('=').append(answer(scale, call)).append('\n');
        }
        return state.toString();
    }

    /** All answers but those of the reason, which a refusal changes. */
    static String wholeOf(SpiceScale scale) {
        return stateOf(scale) + scale.account(14) + "\n" + scale.account(15) + "\n" + scale.faultPosition() + "\n"
            + lineOf(scale) + "\n";
    }
}
