import java.lang.reflect.Method;
import java.util.ArrayList;
import java.util.List;

/**
 * Runs of 512 calls with numbers drawn from a fixed row, each answer compared with the Model's. The draws
 * are the same each time; some numbers are wrong on purpose.
 */
public final class RandomRunsTest {
    private static final int RUNS = 1500;
    private static final int CALLS = 512;
    private static final String[] CHANGES = {
        "jar", "bag", "fill", "fill", "fill", "empty", "beat", "thumb", "weigh", "weigh", "weigh", "sell", "sell", "oath",
        "go", "go", "seal", "days", "undo", "save", "restore",
    };
    private static final String[] QUERIES = {
        "jarOf", "bagOf", "weightOf", "told", "toldAgain", "onPan", "rest", "honest", "pays", "wouldGet", "bestMarket",
        "oathUntil", "isNoticed", "ranked", "faultPosition", "reason", "line", "character", "meanDust", "honestShare",
        "account", "account", "bagOf", "weightOf", "reason",
    };
    private static final int[] EXTREMES = {Integer.MIN_VALUE, -7, -1, 999, 65536, Integer.MAX_VALUE};

    private static long seed;
    private static int wrong = 0;

    public static void main(String[] args) {
        for (int run = 0; run < RUNS && wrong < 5; run++) {
            seed = 77 + 1000003L * run;
            oneRun(run);
        }
        System.out.println(RUNS + " runs of " + CALLS + " calls, " + wrong + " not as due");
        if (wrong != 0) {
            System.exit(1);
        }
    }

    private static int below(int bound) {
        seed = seed * 6364136223846793005L + 1442695040888963407L;
        return (int) ((seed >>> 33) % bound);
    }

    private static void oneRun(int run) {
        SpiceScale scale = new SpiceScale();
        Model model = new Model();
        List<String> calls = new ArrayList<>();
        int kind = run % 5;
        String pending = "";
        for (int call = 0; call < CALLS; call++) {
            String name;
            int[] n = {below(7), below(7), 1 + below(kind == 0 ? 450 : 90)};
            if (!pending.isEmpty()) {
                name = "append";
                n[0] = pending.charAt(0);
                pending = pending.substring(1);
            } else if (call < 6 || below(40) == 0) {
                name = below(2) == 0 ? "jar" : "bag";
            } else if (below(20) == 0) {
                name = "commands";
                if (below(6) > 0) {
                    pending = randomText();
                }
            } else {
                String[] names = below(5) < 3 ? CHANGES : QUERIES;
                name = names[below(names.length)];
                // Weights get short by runs of weighings alone, and oaths end only with the days.
                name = kind == 1 && below(2) == 0 ? "weigh" : name;
            }
            if (!check(scale, model, name, numbersFor(name, n), calls)) {
                wrong++;
                System.out.println("run " + run + ": " + String.join("; ", calls));
                return;
            }
        }
    }

    private static int[] numbersFor(String name, int[] n) {
        int[] numbers = n.clone();
        switch (name) {
            case "append": return numbers;
            case "jar":
                numbers[1] = below(4) == 0 ? 895 + below(8) : below(950);
                break;
            case "bag":
                numbers[0] = 3 + below(50);
                break;
            case "thumb":
                numbers[0] = below(3) == 0 ? below(34) : below(6);
                break;
            case "go": case "oathUntil": case "isNoticed": case "pays":
                numbers[0] = below(5);
                break;
            case "seal": case "weightOf":
                numbers[0] = below(9);
                break;
            case "days":
                numbers[0] = below(5) == 0 ? below(63) : below(4);
                break;
            case "account":
                numbers[0] = below(17);
                break;
            case "character":
                numbers[0] = below(27);
                break;
            default:
                numbers[0] = below(4) == 0 ? numbers[0] : below(4);
                numbers[1] = below(4) == 0 ? numbers[1] : below(3);
                break;
        }
        if (below(30) == 0) {
            numbers[below(3)] = EXTREMES[below(EXTREMES.length)];
        }
        return numbers;
    }

    private static String randomText() {
        StringBuilder text = new StringBuilder();
        int commands = 1 + below(5);
        for (int i = 0; i < commands; i++) {
            text.append(i == 0 ? "" : ";");
            int a = below(4);
            int b = below(3);
            switch (below(12)) {
                case 0: case 1: text.append('f').append(a).append('<').append(b).append('+').append(below(120)); break;
                case 2: text.append('e').append(a).append('>').append(b); break;
                case 3: text.append('b').append(a); break;
                case 4: case 5: text.append('w').append(a); break;
                case 6: text.append('s').append(a); break;
                case 7: text.append('t').append(below(10) == 0 ? below(40) : below(5)); break;
                case 8: text.append('o'); break;
                case 9: text.append('g').append(below(5)); break;
                case 10: text.append('x').append(below(9)); break;
                default: text.append('n').append(below(8)); break;
            }
        }
        if (below(4) == 0) {
            int at = below(text.length() + 1);
            String signs = "febwstogxn<>+;0123456789 ?";
            char sign = below(10) == 0 ? (char) below(65536) : signs.charAt(below(signs.length()));
            if (below(3) == 0) {
                text.insert(at, sign);
            } else if (at < text.length()) {
                text.setCharAt(at, sign);
            } else {
                text.setLength(text.length() - 1);
            }
        }
        return text.toString();
    }

    private static boolean check(SpiceScale scale, Model model, String name, int[] n, List<String> calls) {
        Method method = Run.methodOf(name);
        Class<?>[] types = method.getParameterTypes();
        Object[] values = new Object[types.length];
        int second = n[1];
        for (int i = 0; i < types.length; i++) {
            if (types[i] == boolean.class) {
                second = n[i] & 1;
                values[i] = second == 1;
            } else if (types[i] == char.class) {
                values[i] = (char) n[i];
            } else {
                values[i] = n[i];
            }
        }
        String want = model.answer(name, n[0], second, n[2]);
        String got = Run.answer(scale, method, values);
        calls.add(name + java.util.Arrays.toString(values) + " = " + got + (got.equals(want) ? "" : ", due is " + want));
        return got.equals(want);
    }
}
