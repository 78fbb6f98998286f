import java.util.ArrayDeque;
import java.util.ArrayList;
import java.util.Comparator;
import java.util.Deque;
import java.util.List;
import java.util.regex.Matcher;
import java.util.regex.Pattern;

/**
 * The document once more, in the plainest way and with the whole library: answers as texts, as Run.answer
 * gives them. It shares nothing with the program, so that a slip in one of them shows.
 */
final class Model {
    private static final int[] PLACES = {0, 3, 7, 12};
    private static final int[] NOTICED_ABOVE = {4, 9, 14, 20};
    private static final int[] WEIGHTS = {1, 2, 5, 10, 20, 50, 100, 200};
    private static final String COMMAND = "(f[0-9]<[0-9]\\+[0-9]{1,3}|e[0-9]>[0-9]|[bwsgx][0-9]|[tn][0-9]{1,2}|o)";
    private static final Pattern TEXT = Pattern.compile(COMMAND + "(;" + COMMAND + ")*");

    private static final class Jar {
        int spice, grains;
    }

    private static final class Bag {
        int tare, dust, grains, weighed, spice = -1;
    }

    private static final class State {
        int day, market, coins = 20, thumb, soldGrains, soldNet, soldBags, got;
        List<Jar> jars = new ArrayList<>();
        List<Bag> bags = new ArrayList<>();
        int[] uses = new int[8];
        int[] oathSworn = {-99, -99, -99, -99};

        State copy() {
            State copy = new State();
            copy.day = day;
            copy.market = market;
            copy.coins = coins;
            copy.thumb = thumb;
            copy.soldGrains = soldGrains;
            copy.soldNet = soldNet;
            copy.soldBags = soldBags;
            copy.got = got;
            for (Jar jar : jars) {
                Jar other = new Jar();
                other.spice = jar.spice;
                other.grains = jar.grains;
                copy.jars.add(other);
            }
            for (Bag bag : bags) {
                Bag other = new Bag();
                other.tare = bag.tare;
                other.dust = bag.dust;
                other.grains = bag.grains;
                other.weighed = bag.weighed;
                other.spice = bag.spice;
                copy.bags.add(other);
            }
            copy.uses = uses.clone();
            copy.oathSworn = oathSworn.clone();
            return copy;
        }
    }

    private static final class Refused extends RuntimeException {
        private static final long serialVersionUID = 1L;
        final int reason, detail;

        Refused(int reason, int detail) {
            this.reason = reason;
            this.detail = detail;
        }
    }

    private State s = new State();
    private State saved = null;
    private final Deque<State> before = new ArrayDeque<>();
    private String text = "";
    private String line = "";
    private int fault = -1;
    private int[] reason = null;

    String answer(String name, int a, int b, int c) {
        switch (name) {
            case "append":
                if (text.length() == 60) {
                    return "throws IllegalStateException";
                }
                text += (char) a;
                return "" + text.length();
            case "commands": return commands();
            case "undo":
                if (before.isEmpty()) {
                    return "throws IllegalStateException";
                }
                s = before.removeLast();
                return "" + before.size();
            case "save":
                saved = s.copy();
                return "" + s.day;
            case "restore":
                if (saved == null) {
                    return "throws IllegalStateException";
                }
                s = saved.copy();
                before.clear();
                return "" + s.day;
            case "faultPosition": return "" + fault;
            case "character": return a < 0 || a >= line.length() ? "throws IndexOutOfBoundsException" : "" + line.charAt(a);
            case "reason":
                if (a < 0 || a > 2) {
                    return "throws IllegalArgumentException";
                }
                return reason == null ? "throws NoSuchElementException" : "" + reason[a];
            case "jar": case "bag": case "fill": case "empty": case "beat": case "thumb": case "weigh": case "sell":
            case "oath": case "go": case "seal": case "days":
                State old = s.copy();
                try {
                    String answer = "" + change(name, a, b, c);
                    keep(old);
                    return answer;
                } catch (Refused e) {
                    reason = new int[] {e.reason, e.detail, 0};
                    return "throws UnsupportedOperationException";
                }
            default: return query(name, a, b);
        }
    }

    private void keep(State old) {
        before.addLast(old);
        if (before.size() > 8) {
            before.removeFirst();
        }
    }

    private String commands() {
        String all = text;
        text = "";
        fault = -1;
        if (!TEXT.matcher(all).matches()) {
            int end = 0;
            while (end < all.length() && canContinue(all.substring(0, end + 1))) {
                end++;
            }
            fault = end;
            return "throws IllegalArgumentException";
        }
        State old = s.copy();
        String[] parts = all.split(";");
        for (int i = 0; i < parts.length; i++) {
            String[] numbers = (parts[i].substring(1) + "<0<0<0").split("[<>+]");
            int[] n = {0, 0, 0};
            for (int k = 0; k < 3; k++) {
                n[k] = numbers[k].isEmpty() ? 0 : Integer.parseInt(numbers[k]);
            }
            String[] names = {"fill", "empty", "beat", "weigh", "sell", "thumb", "oath", "go", "seal", "days"};
            try {
                change(names["febwstogxn".indexOf(parts[i].charAt(0))], n[0], n[1], n[2]);
            } catch (Refused e) {
                reason = new int[] {e.reason, e.detail, i};
                s = old;
                return "throws UnsupportedOperationException";
            }
        }
        keep(old);
        return "" + parts.length;
    }

    private static boolean canContinue(String start) {
        Matcher matcher = TEXT.matcher(start);
        return matcher.matches() || matcher.hitEnd();
    }

    private static void refuseIf(boolean isSo, int reason, int detail) {
        if (isSo) {
            throw new Refused(reason, detail);
        }
    }

    private Bag bag(int number) {
        refuseIf(number < 0 || number >= s.bags.size(), 3, number);
        return s.bags.get(number);
    }

    private Jar jar(int number) {
        refuseIf(number < 0 || number >= s.jars.size(), 3, number);
        return s.jars.get(number);
    }

    private int change(String name, int a, int b, int c) {
        switch (name) {
            case "jar": {
                refuseIf(a < 0 || a > 4 || b < 0 || b > 900, 1, 0);
                refuseIf(s.jars.size() == 6, 2, 6);
                Jar jar = new Jar();
                jar.spice = a;
                jar.grains = b;
                s.jars.add(jar);
                return s.jars.size() - 1;
            }
            case "bag": {
                refuseIf(a < 5 || a > 50, 1, 0);
                refuseIf(s.bags.size() == 6, 2, 6);
                Bag bag = new Bag();
                bag.tare = a;
                s.bags.add(bag);
                return s.bags.size() - 1;
            }
            case "fill": {
                Bag bag = bag(a);
                Jar jar = jar(b);
                refuseIf(c < 1 || c > 400, 1, 0);
                refuseIf(bag.grains > 0 && bag.spice != jar.spice, 4, bag.spice);
                refuseIf(jar.grains < c, 5, jar.grains);
                refuseIf(bag.grains + c > 400, 7, 400 - bag.grains);
                jar.grains -= c;
                bag.grains += c;
                bag.spice = jar.spice;
                return bag.grains;
            }
            case "empty": {
                Bag bag = bag(a);
                Jar jar = jar(b);
                refuseIf(bag.grains == 0, 6, a);
                refuseIf(bag.spice != jar.spice, 4, bag.spice);
                refuseIf(jar.grains + bag.grains > 900, 7, 900 - jar.grains);
                jar.grains += bag.grains;
                bag.grains = 0;
                bag.spice = -1;
                return jar.grains;
            }
            case "beat": {
                Bag bag = bag(a);
                int dust = bag.dust;
                bag.dust = 0;
                return dust;
            }
            case "thumb": {
                refuseIf(a < 0 || a > 30, 1, 0);
                refuseIf(oathDays(s.market) > 0, 8, oathDays(s.market));
                int old = s.thumb;
                s.thumb = a;
                return old;
            }
            case "weigh": return use(bag(a));
            case "sell": return sell(a);
            case "oath": {
                refuseIf(oathDays(s.market) > 0, 8, oathDays(s.market));
                refuseIf(s.thumb > 0, 9, s.thumb);
                s.oathSworn[s.market] = s.day;
                return s.day + 19;
            }
            case "go": {
                refuseIf(a < 0 || a > 3, 3, a);
                refuseIf(a == s.market, 13, a);
                daysGoBy(Math.abs(PLACES[a] - PLACES[s.market]));
                s.market = a;
                s.thumb = oathDays(a) > 0 ? 0 : s.thumb;
                return s.day;
            }
            case "seal": {
                refuseIf(a < 0 || a > 7, 3, a);
                refuseIf(s.coins < 2, 12, 2 - s.coins);
                int shortness = shortness(a);
                s.uses[a] = 0;
                s.coins -= 2;
                return shortness;
            }
            default: {
                refuseIf(a < 1 || a > 60, 1, 0);
                daysGoBy(a);
                return s.bags.stream().mapToInt(bag -> bag.dust).sum();
            }
        }
    }

    private int sell(int number) {
        Bag bag = bag(number);
        refuseIf(bag.grains == 0, 6, number);
        refuseIf(s.thumb > NOTICED_ABOVE[s.market], 10, NOTICED_ABOVE[s.market]);
        int told = told(load(bag));
        refuseIf(told - bag.tare <= 0, 11, told);
        int coins = coins(bag, s.market);
        s.soldNet += use(bag) - bag.tare;
        s.soldGrains += bag.grains;
        s.soldBags++;
        s.got += coins;
        s.coins += coins;
        bag.grains = 0;
        bag.spice = -1;
        return coins;
    }

    private int use(Bag bag) {
        int told = 0;
        for (int weight : pan(load(bag))) {
            told += WEIGHTS[weight];
        }
        for (int weight : pan(load(bag))) {
            s.uses[weight] += 100000;
        }
        for (int weight = 0; weight < 8; weight++) {
            s.uses[weight] = s.uses[weight] >= 100000 ? s.uses[weight] - 99999 : s.uses[weight];
        }
        bag.weighed++;
        return told;
    }

    private void daysGoBy(int days) {
        for (int i = 0; i < days; i++) {
            s.day++;
            for (Bag bag : s.bags) {
                bag.dust += bag.dust < 20 ? 1 : 0;
            }
        }
    }

    /** For how many days yet, this one included; 0 if none is in force. */
    private int oathDays(int market) {
        return Math.max(0, s.oathSworn[market] + 20 - s.day);
    }

    private int load(Bag bag) {
        return bag.tare + bag.dust + bag.grains + s.thumb;
    }

    private int shortness(int weight) {
        int shortness = s.uses[weight] / 8;
        while (10 * shortness > WEIGHTS[weight]) {
            shortness--;
        }
        return shortness;
    }

    private List<Integer> pan(int load) {
        List<Integer> pan = new ArrayList<>();
        for (int weight = 7; weight >= 0; weight--) {
            int left = load - pan.stream().mapToInt(w -> WEIGHTS[w] - shortness(w)).sum();
            if (WEIGHTS[weight] - shortness(weight) <= left) {
                pan.add(weight);
            }
        }
        return pan;
    }

    private int told(int load) {
        return pan(load).stream().mapToInt(weight -> WEIGHTS[weight]).sum();
    }

    private static int pays(int market, int spice) {
        return (3 * spice + 5 * market) % 7 + 2;
    }

    private int coins(Bag bag, int market) {
        int net = told(load(bag)) - bag.tare;
        if (net < 1) {
            return 0;
        }
        int coins = (int) Math.floor(pays(market, bag.spice) * net / 10.0);
        return oathDays(market) > 0 ? coins + (int) Math.floor(coins / 10.0) : coins;
    }

    private String query(String name, int a, int b) {
        boolean hasBag = a >= 0 && a < s.bags.size();
        switch (name) {
            case "jarOf":
                if (a < 0 || a >= s.jars.size()) {
                    return "throws IndexOutOfBoundsException";
                }
                return "" + (b == 1 ? s.jars.get(a).spice : s.jars.get(a).grains);
            case "weightOf": return a < 0 || a > 7 ? "throws IndexOutOfBoundsException" : weightOf(a, b);
            case "pays":
                if (a < 0 || a > 3) {
                    return "throws IndexOutOfBoundsException";
                }
                return b < 0 || b > 4 ? "throws IllegalArgumentException" : "" + pays(a, b);
            case "oathUntil":
                if (a < 0 || a > 3) {
                    return "throws IndexOutOfBoundsException";
                }
                return oathDays(a) == 0 ? "throws NoSuchElementException" : "" + (s.oathSworn[a] + 19);
            case "isNoticed":
                return a < 0 || a > 3 ? "throws IndexOutOfBoundsException" : "" + (s.thumb > NOTICED_ABOVE[a]);
            case "ranked": return hasBag ? "" + ranking().get(a) : "throws NoSuchElementException";
            case "meanDust":
                return s.bags.isEmpty() ? "throws ArithmeticException"
                    : "" + (float) s.bags.stream().mapToInt(bag -> bag.dust).sum() / (float) s.bags.size();
            case "honestShare":
                return s.soldBags == 0 ? "throws ArithmeticException" : "" + (double) s.soldGrains / (double) s.soldNet;
            case "account": return account(a);
            default: return hasBag ? bagQuery(name, a, b) : "throws IndexOutOfBoundsException";
        }
    }

    private List<Integer> ranking() {
        List<Integer> bags = new ArrayList<>();
        for (int bag = 0; bag < s.bags.size(); bag++) {
            bags.add(bag);
        }
        bags.sort(Comparator.<Integer>comparingInt(bag -> -s.bags.get(bag).grains)
            .thenComparingInt(bag -> s.bags.get(bag).tare).thenComparingInt(bag -> bag));
        return bags;
    }

    private String weightOf(int weight, int what) {
        int left = -1;
        int uses = s.uses[weight];
        int now = shortness(weight);
        for (int more = 1; more <= 8 && left < 0; more++) {
            s.uses[weight] = uses + more;
            left = shortness(weight) > now ? more : -1;
        }
        s.uses[weight] = uses;
        int[] numbers = {WEIGHTS[weight], now, uses, left};
        return what < 0 || what > 3 ? "throws IllegalArgumentException" : "" + numbers[what];
    }

    private String bagQuery(String name, int number, int b) {
        Bag bag = s.bags.get(number);
        int[] numbers = {bag.tare, bag.dust, bag.spice, bag.grains, load(bag), bag.weighed};
        switch (name) {
            case "bagOf": return b < 0 || b > 5 ? "throws IllegalArgumentException" : "" + numbers[b];
            case "told": case "toldAgain": return "" + told(load(bag));
            case "onPan": return "" + pan(load(bag)).stream().mapToInt(weight -> (int) Math.pow(2, weight)).sum();
            case "rest": return "" + (load(bag) - pan(load(bag)).stream().mapToInt(w -> WEIGHTS[w] - shortness(w)).sum());
            case "honest": return "" + told(bag.tare + bag.grains);
            case "wouldGet":
                if (b < 0 || b > 3) {
                    return "throws IndexOutOfBoundsException";
                }
                return bag.grains == 0 ? "throws NoSuchElementException" : "" + coins(bag, b);
            case "bestMarket": return bag.grains == 0 ? "throws NoSuchElementException" : "" + best(bag);
            default:
                List<String> parts = new ArrayList<>();
                pan(load(bag)).forEach(weight -> parts.add("" + WEIGHTS[weight]));
                line = String.join("+", parts) + "=" + told(load(bag));
                return "" + line.length();
        }
    }

    private int best(Bag bag) {
        return List.of(0, 1, 2, 3).stream().min(Comparator.<Integer>comparingInt(market -> -coins(bag, market))
            .thenComparingInt(market -> Math.abs(PLACES[market] - PLACES[s.market])).thenComparingInt(market -> market)).get();
    }

    private String account(int what) {
        int oaths = 0;
        int shortnesses = 0;
        for (int market = 0; market < 4; market++) {
            oaths += oathDays(market) > 0 ? 1 : 0;
        }
        for (int weight = 0; weight < 8; weight++) {
            shortnesses += shortness(weight);
        }
        int[] accounts = {s.day, s.market, s.coins, s.thumb, s.jars.size(), s.bags.size(),
            s.jars.stream().mapToInt(jar -> jar.grains).sum(), s.bags.stream().mapToInt(bag -> bag.grains).sum(),
            s.soldGrains, s.soldNet, s.soldBags, s.got, oaths, shortnesses, before.size(), text.length()};
        return what < 0 || what > 15 ? "throws IllegalArgumentException" : "" + accounts[what];
    }
}
