import java.util.NoSuchElementException;

/** The scale of a spice caravan: what each call does is promised in ../shared/DOC.md. */
public final class SpiceScale {

    private static final int MARKETS = 4;
    private static final int[] PLACE = {0, 3, 7, 12};
    private static final int[] GREATEST_UNNOTICED = {4, 9, 14, 20};
    private static final int SPICES = 5;
    private static final int NO_SPICE = -1;
    private static final int FIRST_COINS = 20;

    private static final int MOST_JARS = 6;
    private static final int JAR_ROOM = 900;
    private static final int MOST_BAGS = 6;
    private static final int BAG_ROOM = 400;
    private static final int LEAST_TARE = 5;
    private static final int MOST_TARE = 50;
    private static final int MOST_DUST = 20;
    private static final int MOST_THUMB = 30;

    private static final int WEIGHTS = 8;
    private static final int[] GRAINS_OF_WEIGHT = {1, 2, 5, 10, 20, 50, 100, 200};
    private static final int[] MOST_SHORTNESS = {0, 0, 0, 1, 2, 5, 10, 20};
    private static final int USES_TO_BE_SHORTER = 8;
    private static final int SEAL_COINS = 2;

    private static final int OATH_DAYS = 20;
    private static final int NO_OATH = -1;
    private static final int MOST_DAYS = 60;

    private static final int MOST_UNDONE = 8;
    private static final int MOST_CHARACTERS = 60;
    private static final int MOST_NUMBERS = 3;

    // An action that a text can name is told by its letter there.
    private static final int FILL = 'f';
    private static final int EMPTY = 'e';
    private static final int BEAT = 'b';
    private static final int WEIGH = 'w';
    private static final int SELL = 's';
    private static final int THUMB = 't';
    private static final int OATH = 'o';
    private static final int GO = 'g';
    private static final int SEAL = 'x';
    private static final int DAYS = 'n';
    // No text can add jars or bags, so these are letters that no text may hold.
    private static final int ADD_JAR = 'J';
    private static final int ADD_BAG = 'B';

    private static final int OUT_OF_RANGE = 1;
    private static final int TOO_MANY = 2;
    private static final int NO_SUCH = 3;
    private static final int OTHER_SPICE = 4;
    private static final int TOO_FEW_GRAINS = 5;
    private static final int EMPTY_BAG = 6;
    private static final int TOO_LITTLE_ROOM = 7;
    private static final int UNDER_OATH = 8;
    private static final int THUMB_ON_PAN = 9;
    private static final int THUMB_NOTICED = 10;
    private static final int NOTHING_NET = 11;
    private static final int TOO_FEW_COINS = 12;
    private static final int ALREADY_THERE = 13;

    private final Caravan now;
    private final Caravan snapshot;
    private boolean hasSnapshot;
    private final History history;
    private final Refusal refusal;
    private final CommandText text;
    private int fault;
    private final StringBuilder lineText;

    public SpiceScale() {
        now = new Caravan();
        snapshot = new Caravan();
        hasSnapshot = false;
        history = new History();
        refusal = new Refusal();
        text = new CommandText();
        fault = -1;
        lineText = new StringBuilder();
    }

    public int jar(int spice, int grains) throws UnsupportedOperationException {
        return change(ADD_JAR, spice, grains, 0);
    }

    public int bag(int tare) throws UnsupportedOperationException {
        return change(ADD_BAG, tare, 0, 0);
    }

    public int fill(int bag, int jar, int grains) throws UnsupportedOperationException {
        return change(FILL, bag, jar, grains);
    }

    public int empty(int bag, int jar) throws UnsupportedOperationException {
        return change(EMPTY, bag, jar, 0);
    }

    public int beat(int bag) throws UnsupportedOperationException {
        return change(BEAT, bag, 0, 0);
    }

    public int thumb(int thumb) throws UnsupportedOperationException {
        return change(THUMB, thumb, 0, 0);
    }

    public int weigh(int bag) throws UnsupportedOperationException {
        return change(WEIGH, bag, 0, 0);
    }

    public int sell(int bag) throws UnsupportedOperationException {
        return change(SELL, bag, 0, 0);
    }

    public int oath() throws UnsupportedOperationException {
        return change(OATH, 0, 0, 0);
    }

    public int go(int market) throws UnsupportedOperationException {
        return change(GO, market, 0, 0);
    }

    public int seal(int weight) throws UnsupportedOperationException {
        return change(SEAL, weight, 0, 0);
    }

    public int days(int days) throws UnsupportedOperationException {
        return change(DAYS, days, 0, 0);
    }

    public int jarOf(int jar, boolean isSpice) throws IndexOutOfBoundsException {
        if (!now.hasJar(jar)) {
            throw new IndexOutOfBoundsException("no such jar");
        }
        return isSpice ? now.jarSpice[jar] : now.jarGrains[jar];
    }

    public int bagOf(int bag, int what) throws IndexOutOfBoundsException, IllegalArgumentException {
        checkBag(bag);
        switch (what) {
            case 0: return now.bagTare[bag];
            case 1: return now.bagDust[bag];
            case 2: return now.bagSpice[bag];
            case 3: return now.bagGrains[bag];
            case 4: return now.loadOf(bag);
            case 5: return now.bagWeighings[bag];
            default: throw new IllegalArgumentException("a bag has the numbers 0 to 5");
        }
    }

    public int weightOf(int weight, int what) throws IndexOutOfBoundsException, IllegalArgumentException {
        if (!isWeight(weight)) {
            throw new IndexOutOfBoundsException("no such weight");
        }
        switch (what) {
            case 0: return GRAINS_OF_WEIGHT[weight];
            case 1: return now.shortnessOf(weight);
            case 2: return now.uses[weight];
            case 3: return now.usesToBeShorter(weight);
            default: throw new IllegalArgumentException("a weight has the numbers 0 to 3");
        }
    }

    public int told(int bag) throws IndexOutOfBoundsException {
        checkBag(bag);
        return toldBy(now.weightsFor(now.loadOf(bag)));
    }

    public int toldAgain(int bag) throws IndexOutOfBoundsException {
        checkBag(bag);
        int load = now.loadOf(bag);
        return load - now.restOf(load) + now.shortnessTogether(now.weightsFor(load));
    }

    public int onPan(int bag) throws IndexOutOfBoundsException {
        checkBag(bag);
        return now.weightsFor(now.loadOf(bag));
    }

    public int rest(int bag) throws IndexOutOfBoundsException {
        checkBag(bag);
        return now.restOf(now.loadOf(bag));
    }

    public int honest(int bag) throws IndexOutOfBoundsException {
        checkBag(bag);
        return toldBy(now.weightsFor(now.bagTare[bag] + now.bagGrains[bag]));
    }

    public int pays(int market, int spice) throws IndexOutOfBoundsException, IllegalArgumentException {
        checkMarket(market);
        if (!isSpice(spice)) {
            throw new IllegalArgumentException("no such spice");
        }
        return priceOf(market, spice);
    }

    public int wouldGet(int bag, int market) throws IndexOutOfBoundsException, NoSuchElementException {
        checkBag(bag);
        checkMarket(market);
        checkFilled(bag);
        return now.coinsFor(bag, market, now.netOf(bag));
    }

    public int bestMarket(int bag) throws IndexOutOfBoundsException, NoSuchElementException {
        checkBag(bag);
        checkFilled(bag);
        return now.marketThatGivesMost(bag);
    }

    public int oathUntil(int market) throws IndexOutOfBoundsException, NoSuchElementException {
        checkMarket(market);
        if (!now.isOathInForce(market)) {
            throw new NoSuchElementException("no oath is in force there");
        }
        return now.lastOathDay[market];
    }

    public boolean isNoticed(int market) throws IndexOutOfBoundsException {
        checkMarket(market);
        return now.thumb > GREATEST_UNNOTICED[market];
    }

    public int ranked(int rank) throws NoSuchElementException {
        int bag = now.bagOfRank(rank);
        if (bag < 0) {
            throw new NoSuchElementException("no such rank");
        }
        return bag;
    }

    public int append(char character) throws IllegalStateException {
        if (text.length >= MOST_CHARACTERS) {
            throw new IllegalStateException("the text buffer is full");
        }
        text.characters[text.length] = character;
        text.length++;
        return text.length;
    }

    public int commands() throws IllegalArgumentException, UnsupportedOperationException {
        int count = text.countCommands();
        fault = count < 0 ? text.position : -1;
        boolean isDone = count > 0 && carryOutCommands(count);
        text.length = 0;
        if (fault >= 0) {
            throw new IllegalArgumentException("the text has a fault");
        }
        if (!isDone) {
            throw new UnsupportedOperationException("a command is refused");
        }
        return count;
    }

    public int faultPosition() {
        return fault;
    }

    public int reason(int what) throws IllegalArgumentException, NoSuchElementException {
        if (what < 0 || what > 2) {
            throw new IllegalArgumentException("a reason has the numbers 0 to 2");
        }
        if (refusal.reason == 0) {
            throw new NoSuchElementException("nothing was refused");
        }
        if (what == 0) {
            return refusal.reason;
        }
        return what == 1 ? refusal.detail : refusal.command;
    }

    public int line(int bag) throws IndexOutOfBoundsException {
        checkBag(bag);
        writeLine(now.weightsFor(now.loadOf(bag)));
        return lineText.length();
    }

    public char character(int index) throws IndexOutOfBoundsException {
        if (index < 0 || index >= lineText.length()) {
            throw new IndexOutOfBoundsException("the line has no such index");
        }
        return lineText.charAt(index);
    }

    public float meanDust() throws ArithmeticException {
        if (now.bags == 0) {
            throw new ArithmeticException("there are no bags");
        }
        return (float) now.dustTogether() / (float) now.bags;
    }

    public double honestShare() throws ArithmeticException {
        if (now.soldNet == 0) {
            throw new ArithmeticException("nothing was sold");
        }
        return (double) now.soldGrains / (double) now.soldNet;
    }

    public int account(int what) throws IllegalArgumentException {
        switch (what) {
            case 0: return now.day;
            case 1: return now.market;
            case 2: return now.coins;
            case 3: return now.thumb;
            case 4: return now.jars;
            case 5: return now.bags;
            case 6: return sumOf(now.jarGrains, now.jars);
            case 7: return sumOf(now.bagGrains, now.bags);
            case 8: return now.soldGrains;
            case 9: return now.soldNet;
            case 10: return now.soldBags;
            case 11: return now.coinsGot;
            case 12: return now.oathsInForce();
            case 13: return now.shortnessTogether((1 << WEIGHTS) - 1);
            case 14: return history.kept;
            case 15: return text.length;
            default: throw new IllegalArgumentException("there are the accounts 0 to 15");
        }
    }

    public int undo() throws IllegalStateException {
        if (history.kept == 0) {
            throw new IllegalStateException("there is nothing to undo");
        }
        history.takeBack(now);
        return history.kept;
    }

    public int save() {
        snapshot.copyFrom(now);
        hasSnapshot = true;
        return now.day;
    }

    public int restore() throws IllegalStateException {
        if (!hasSnapshot) {
            throw new IllegalStateException("there is no snapshot");
        }
        now.copyFrom(snapshot);
        history.kept = 0;
        return now.day;
    }

    private void checkBag(int bag) throws IndexOutOfBoundsException {
        if (!now.hasBag(bag)) {
            throw new IndexOutOfBoundsException("no such bag");
        }
    }

    private static void checkMarket(int market) throws IndexOutOfBoundsException {
        if (!isMarket(market)) {
            throw new IndexOutOfBoundsException("no such market");
        }
    }

    private void checkFilled(int bag) throws NoSuchElementException {
        if (now.bagGrains[bag] == 0) {
            throw new NoSuchElementException("the bag is empty");
        }
    }

    private int change(int action, int first, int second, int third) throws UnsupportedOperationException {
        if (refusal.applies(now, action, first, second, third)) {
            throw new UnsupportedOperationException("it is refused");
        }
        history.hold(now);
        history.keepHeld();
        return now.carryOut(action, first, second, third);
    }

    private boolean carryOutCommands(int count) {
        history.hold(now);
        text.position = 0;
        int[] numbers = text.numbers;
        for (int command = 0; command < count; command++) {
            text.readCommand();
            if (refusal.applies(now, text.action, numbers[0], numbers[1], numbers[2])) {
                refusal.command = command;
                history.bringBackHeld(now);
                return false;
            }
            now.carryOut(text.action, numbers[0], numbers[1], numbers[2]);
        }
        history.keepHeld();
        return true;
    }

    private void writeLine(int weights) {
        lineText.setLength(0);
        for (int weight = WEIGHTS - 1; weight >= 0; weight--) {
            if (isAmong(weight, weights)) {
                if (lineText.length() > 0) {
                    lineText.append('+');
                }
                lineText.append(GRAINS_OF_WEIGHT[weight]);
            }
        }
        lineText.append('=');
        lineText.append(toldBy(weights));
    }

    private static boolean isMarket(int market) {
        return market >= 0 && market < MARKETS;
    }

    private static boolean isSpice(int spice) {
        return spice >= 0 && spice < SPICES;
    }

    private static boolean isWeight(int weight) {
        return weight >= 0 && weight < WEIGHTS;
    }

    private static boolean isAmong(int weight, int weights) {
        return (weights >> weight & 1) != 0;
    }

    private static int priceOf(int market, int spice) {
        return 2 + (3 * spice + 5 * market) % 7;
    }

    private static int toldBy(int weights) {
        int told = 0;
        for (int weight = 0; weight < WEIGHTS; weight++) {
            if (isAmong(weight, weights)) {
                told += GRAINS_OF_WEIGHT[weight];
            }
        }
        return told;
    }

    private static int sumOf(int[] numbers, int count) {
        int sum = 0;
        for (int i = 0; i < count && i < numbers.length; i++) {
            sum += numbers[i];
        }
        return sum;
    }

    /** All that can be undone. What its methods are given has been looked at before. */
    private static final class Caravan {
        private int day;
        private int market;
        private int coins;
        private int thumb;
        private int jars;
        private final int[] jarSpice;
        private final int[] jarGrains;
        private int bags;
        private final int[] bagTare;
        private final int[] bagDust;
        private final int[] bagSpice;
        private final int[] bagGrains;
        private final int[] bagWeighings;
        private final int[] uses;
        private final int[] lastOathDay;
        private int soldBags;
        private int soldGrains;
        private int soldNet;
        private int coinsGot;

        private Caravan() {
            coins = FIRST_COINS;
            jarSpice = new int[MOST_JARS];
            jarGrains = new int[MOST_JARS];
            bagTare = new int[MOST_BAGS];
            bagDust = new int[MOST_BAGS];
            bagSpice = new int[MOST_BAGS];
            bagGrains = new int[MOST_BAGS];
            bagWeighings = new int[MOST_BAGS];
            uses = new int[WEIGHTS];
            lastOathDay = new int[MARKETS];
            for (int place = 0; place < MARKETS; place++) {
                lastOathDay[place] = NO_OATH;
            }
        }

        private void copyFrom(Caravan other) {
            day = other.day;
            market = other.market;
            coins = other.coins;
            thumb = other.thumb;
            jars = other.jars;
            System.arraycopy(other.jarSpice, 0, jarSpice, 0, MOST_JARS);
            System.arraycopy(other.jarGrains, 0, jarGrains, 0, MOST_JARS);
            bags = other.bags;
            System.arraycopy(other.bagTare, 0, bagTare, 0, MOST_BAGS);
            System.arraycopy(other.bagDust, 0, bagDust, 0, MOST_BAGS);
            System.arraycopy(other.bagSpice, 0, bagSpice, 0, MOST_BAGS);
            System.arraycopy(other.bagGrains, 0, bagGrains, 0, MOST_BAGS);
            System.arraycopy(other.bagWeighings, 0, bagWeighings, 0, MOST_BAGS);
            System.arraycopy(other.uses, 0, uses, 0, WEIGHTS);
            System.arraycopy(other.lastOathDay, 0, lastOathDay, 0, MARKETS);
            soldBags = other.soldBags;
            soldGrains = other.soldGrains;
            soldNet = other.soldNet;
            coinsGot = other.coinsGot;
        }

        private int carryOut(int action, int first, int second, int third) {
            switch (action) {
                case ADD_JAR: return addJar(first, second);
                case ADD_BAG: return addBag(first);
                case FILL: return fillBag(first, second, third);
                case EMPTY: return emptyBag(first, second);
                case BEAT: return beatBag(first);
                case THUMB: return setThumb(first);
                case WEIGH: return weighBag(first);
                case SELL: return sellBag(first);
                case OATH: return swearOath();
                case GO: return travelTo(first);
                case SEAL: return sealWeight(first);
                case DAYS: return letDaysGo(first);
                default: return 0;
            }
        }

        private int addJar(int spice, int grains) {
            jarSpice[jars] = spice;
            jarGrains[jars] = grains;
            jars++;
            return jars - 1;
        }

        private int addBag(int tare) {
            bagTare[bags] = tare;
            bagDust[bags] = 0;
            bagSpice[bags] = NO_SPICE;
            bagGrains[bags] = 0;
            bagWeighings[bags] = 0;
            bags++;
            return bags - 1;
        }

        private int fillBag(int bag, int jar, int grains) {
            jarGrains[jar] -= grains;
            bagSpice[bag] = jarSpice[jar];
            bagGrains[bag] += grains;
            return bagGrains[bag];
        }

        private int emptyBag(int bag, int jar) {
            jarGrains[jar] += bagGrains[bag];
            clearBag(bag);
            return jarGrains[jar];
        }

        private void clearBag(int bag) {
            bagGrains[bag] = 0;
            bagSpice[bag] = NO_SPICE;
        }

        private int beatBag(int bag) {
            int before = bagDust[bag];
            bagDust[bag] = 0;
            return before;
        }

        private int setThumb(int newThumb) {
            int before = thumb;
            thumb = newThumb;
            return before;
        }

        private int weighBag(int bag) {
            int weights = weightsFor(loadOf(bag));
            for (int weight = 0; weight < WEIGHTS; weight++) {
                if (isAmong(weight, weights)) {
                    uses[weight]++;
                }
            }
            bagWeighings[bag]++;
            return toldBy(weights);
        }

        private int sellBag(int bag) {
            int net = weighBag(bag) - bagTare[bag];
            int got = coinsFor(bag, market, net);
            soldBags++;
            soldGrains += bagGrains[bag];
            soldNet += net;
            coinsGot += got;
            coins += got;
            clearBag(bag);
            return got;
        }

        private int swearOath() {
            lastOathDay[market] = day + OATH_DAYS - 1;
            return lastOathDay[market];
        }

        private int travelTo(int newMarket) {
            letDaysGo(distanceTo(newMarket));
            market = newMarket;
            // The oath counts on the day of arrival: it may have ended on the way.
            if (isOathInForce(market)) {
                thumb = 0;
            }
            return day;
        }

        private int sealWeight(int weight) {
            int before = shortnessOf(weight);
            uses[weight] = 0;
            coins -= SEAL_COINS;
            return before;
        }

        private int letDaysGo(int days) {
            day += days;
            for (int bag = 0; bag < bags; bag++) {
                bagDust[bag] = Math.min(MOST_DUST, bagDust[bag] + days);
            }
            return dustTogether();
        }

        private boolean hasJar(int jar) {
            return jar >= 0 && jar < jars;
        }

        private boolean hasBag(int bag) {
            return bag >= 0 && bag < bags;
        }

        private int loadOf(int bag) {
            return bagTare[bag] + bagDust[bag] + bagGrains[bag] + thumb;
        }

        private int dustTogether() {
            return sumOf(bagDust, bags);
        }

        private int distanceTo(int otherMarket) {
            return Math.abs(PLACE[otherMarket] - PLACE[market]);
        }

        private boolean isOathInForce(int atMarket) {
            return day <= lastOathDay[atMarket];
        }

        private int oathDaysLeft() {
            return lastOathDay[market] - day + 1;
        }

        private int oathsInForce() {
            int count = 0;
            for (int place = 0; place < MARKETS; place++) {
                if (isOathInForce(place)) {
                    count++;
                }
            }
            return count;
        }

        private int shortnessOf(int weight) {
            int byUse = uses[weight] / USES_TO_BE_SHORTER;
            return byUse < MOST_SHORTNESS[weight] ? byUse : MOST_SHORTNESS[weight];
        }

        private int usesToBeShorter(int weight) {
            if (shortnessOf(weight) >= MOST_SHORTNESS[weight]) {
                return -1;
            }
            return USES_TO_BE_SHORTER - uses[weight] % USES_TO_BE_SHORTER;
        }

        private int shortnessTogether(int weights) {
            int together = 0;
            for (int weight = 0; weight < WEIGHTS; weight++) {
                if (isAmong(weight, weights)) {
                    together += shortnessOf(weight);
                }
            }
            return together;
        }

        private int weightsFor(int load) {
            int weights = 0;
            int onPan = 0;
            // However short they are, a weight of a higher number is the heavier one.
            for (int weight = WEIGHTS - 1; weight >= 0; weight--) {
                int trueGrains = GRAINS_OF_WEIGHT[weight] - shortnessOf(weight);
                if (onPan + trueGrains <= load) {
                    onPan += trueGrains;
                    weights |= 1 << weight;
                }
            }
            return weights;
        }

        private int restOf(int load) {
            int weights = weightsFor(load);
            return load - (toldBy(weights) - shortnessTogether(weights));
        }

        private int netOf(int bag) {
            return toldBy(weightsFor(loadOf(bag))) - bagTare[bag];
        }

        private int coinsFor(int bag, int atMarket, int net) {
            if (net <= 0) {
                return 0;
            }
            int got = priceOf(atMarket, bagSpice[bag]) * net / 10;
            return isOathInForce(atMarket) ? got + got / 10 : got;
        }

        private int marketThatGivesMost(int bag) {
            int net = netOf(bag);
            int best = 0;
            for (int place = 1; place < MARKETS; place++) {
                int more = coinsFor(bag, place, net) - coinsFor(bag, best, net);
                if (more > 0 || more == 0 && distanceTo(place) < distanceTo(best)) {
                    best = place;
                }
            }
            return best;
        }

        private int bagOfRank(int rank) {
            for (int bag = 0; bag < bags; bag++) {
                int bagsBefore = 0;
                for (int other = 0; other < bags; other++) {
                    if (isBefore(other, bag)) {
                        bagsBefore++;
                    }
                }
                if (bagsBefore == rank) {
                    return bag;
                }
            }
            return -1;
        }

        private boolean isBefore(int bag, int other) {
            if (bagGrains[bag] != bagGrains[other]) {
                return bagGrains[bag] > bagGrains[other];
            }
            if (bagTare[bag] != bagTare[other]) {
                return bagTare[bag] < bagTare[other];
            }
            return bag < other;
        }
    }

    /** The reason that is kept, and the search for one: the first that applies. */
    private static final class Refusal {
        private int reason;
        private int detail;
        private int command;

        private boolean applies(Caravan caravan, int action, int first, int second, int third) {
            switch (action) {
                case ADD_JAR: return ofJar(caravan, first, second);
                case ADD_BAG: return ofBag(caravan, first);
                case FILL: return ofFilling(caravan, first, second, third);
                case EMPTY: return ofEmptying(caravan, first, second);
                case BEAT: return ofMissing(caravan.hasBag(first), first);
                case THUMB: return ofThumb(caravan, first);
                case WEIGH: return ofMissing(caravan.hasBag(first), first);
                case SELL: return ofSelling(caravan, first);
                case OATH: return ofOath(caravan);
                case GO: return ofGoing(caravan, first);
                case SEAL: return ofSealing(caravan, first);
                case DAYS: return keepIf(first < 1 || first > MOST_DAYS, OUT_OF_RANGE, 0);
                default: return false;
            }
        }

        private boolean ofJar(Caravan caravan, int spice, int grains) {
            return keepIf(!isSpice(spice) || grains < 0 || grains > JAR_ROOM, OUT_OF_RANGE, 0)
                || keepIf(caravan.jars >= MOST_JARS, TOO_MANY, MOST_JARS);
        }

        private boolean ofBag(Caravan caravan, int tare) {
            return keepIf(tare < LEAST_TARE || tare > MOST_TARE, OUT_OF_RANGE, 0)
                || keepIf(caravan.bags >= MOST_BAGS, TOO_MANY, MOST_BAGS);
        }

        private boolean ofFilling(Caravan caravan, int bag, int jar, int grains) {
            if (ofMissing(caravan.hasBag(bag), bag) || ofMissing(caravan.hasJar(jar), jar)) {
                return true;
            }
            int room = BAG_ROOM - caravan.bagGrains[bag];
            return keepIf(grains < 1 || grains > BAG_ROOM, OUT_OF_RANGE, 0)
                || caravan.bagGrains[bag] > 0 && ofOtherSpice(caravan, bag, jar)
                || keepIf(grains > caravan.jarGrains[jar], TOO_FEW_GRAINS, caravan.jarGrains[jar])
                || keepIf(grains > room, TOO_LITTLE_ROOM, room);
        }

        private boolean ofEmptying(Caravan caravan, int bag, int jar) {
            if (ofMissing(caravan.hasBag(bag), bag) || ofMissing(caravan.hasJar(jar), jar)) {
                return true;
            }
            int room = JAR_ROOM - caravan.jarGrains[jar];
            return keepIf(caravan.bagGrains[bag] == 0, EMPTY_BAG, bag)
                || ofOtherSpice(caravan, bag, jar)
                || keepIf(caravan.bagGrains[bag] > room, TOO_LITTLE_ROOM, room);
        }

        private boolean ofOtherSpice(Caravan caravan, int bag, int jar) {
            return keepIf(caravan.bagSpice[bag] != caravan.jarSpice[jar], OTHER_SPICE, caravan.bagSpice[bag]);
        }

        private boolean ofThumb(Caravan caravan, int thumb) {
            return keepIf(thumb < 0 || thumb > MOST_THUMB, OUT_OF_RANGE, 0)
                || ofOathHere(caravan);
        }

        private boolean ofSelling(Caravan caravan, int bag) {
            if (ofMissing(caravan.hasBag(bag), bag)) {
                return true;
            }
            int unnoticed = GREATEST_UNNOTICED[caravan.market];
            int net = caravan.netOf(bag);
            return keepIf(caravan.bagGrains[bag] == 0, EMPTY_BAG, bag)
                || keepIf(caravan.thumb > unnoticed, THUMB_NOTICED, unnoticed)
                || keepIf(net <= 0, NOTHING_NET, net + caravan.bagTare[bag]);
        }

        private boolean ofOath(Caravan caravan) {
            return ofOathHere(caravan)
                || keepIf(caravan.thumb > 0, THUMB_ON_PAN, caravan.thumb);
        }

        private boolean ofOathHere(Caravan caravan) {
            return keepIf(caravan.isOathInForce(caravan.market), UNDER_OATH, caravan.oathDaysLeft());
        }

        private boolean ofGoing(Caravan caravan, int market) {
            return ofMissing(isMarket(market), market)
                || keepIf(market == caravan.market, ALREADY_THERE, market);
        }

        private boolean ofSealing(Caravan caravan, int weight) {
            return ofMissing(isWeight(weight), weight)
                || keepIf(caravan.coins < SEAL_COINS, TOO_FEW_COINS, SEAL_COINS - caravan.coins);
        }

        private boolean ofMissing(boolean isThere, int number) {
            return keepIf(!isThere, NO_SUCH, number);
        }

        private boolean keepIf(boolean isSo, int newReason, int newDetail) {
            if (isSo) {
                reason = newReason;
                detail = newDetail;
                command = 0;
            }
            return isSo;
        }
    }

    /** What there was before the latest changes, in a ring that is used again and again. */
    private static final class History {
        // One more than is kept: a text that is refused must not cost the oldest one.
        private static final int SLOTS = MOST_UNDONE + 1;

        private final Caravan[] slots;
        private int held;
        private int kept;

        private History() {
            slots = new Caravan[SLOTS];
            for (int slot = 0; slot < SLOTS; slot++) {
                slots[slot] = new Caravan();
            }
        }

        private void hold(Caravan caravan) {
            slots[held].copyFrom(caravan);
        }

        private void bringBackHeld(Caravan caravan) {
            caravan.copyFrom(slots[held]);
        }

        private void keepHeld() {
            held = (held + 1) % SLOTS;
            kept = Math.min(kept + 1, MOST_UNDONE);
        }

        private void takeBack(Caravan caravan) {
            held = (held + SLOTS - 1) % SLOTS;
            kept--;
            caravan.copyFrom(slots[held]);
        }
    }

    /** The text buffer, and the reading of its commands one by one. */
    private static final class CommandText {
        private final char[] characters;
        private int length;
        private int position;
        private int action;
        private final int[] numbers;

        private CommandText() {
            characters = new char[MOST_CHARACTERS];
            numbers = new int[MOST_NUMBERS];
        }

        /** Returns -1 if the text has a fault: then the position is where it is. */
        private int countCommands() {
            position = 0;
            for (int count = 1; count <= MOST_CHARACTERS; count++) {
                if (!readCommand()) {
                    return -1;
                }
                if (position >= length) {
                    return count;
                }
            }
            return -1;
        }

        /** Returns false if it cannot be read: then the position is where the fault is. */
        private boolean readCommand() {
            if (position > 0 && !readCharacter(';')) {
                return false;
            }
            if (position >= length) {
                return false;
            }
            action = characters[position];
            String form = formBehind(action);
            if (form == null) {
                return false;
            }
            position++;
            return readForm(form);
        }

        /** A digit of a form stands for a number of at most so many digits. */
        private static String formBehind(int letter) {
            switch (letter) {
                case FILL: return "1<1+3";
                case EMPTY: return "1>1";
                case OATH: return "";
                case THUMB: return "2";
                case DAYS: return "2";
                case BEAT: return "1";
                case WEIGH: return "1";
                case SELL: return "1";
                case GO: return "1";
                case SEAL: return "1";
                default: return null;
            }
        }

        private boolean readForm(String form) {
            int count = 0;
            for (int i = 0; i < form.length(); i++) {
                char sign = form.charAt(i);
                if (!isDigit(sign)) {
                    if (!readCharacter(sign)) {
                        return false;
                    }
                } else if (count >= MOST_NUMBERS || !readNumber(count, sign - '0')) {
                    return false;
                } else {
                    count++;
                }
            }
            return true;
        }

        private boolean readCharacter(char sign) {
            if (position >= length || characters[position] != sign) {
                return false;
            }
            position++;
            return true;
        }

        private boolean readNumber(int index, int mostDigits) {
            int value = 0;
            int digits = 0;
            while (digits < mostDigits && position < length && isDigit(characters[position])) {
                value = 10 * value + (characters[position] - '0');
                digits++;
                position++;
            }
            numbers[index] = value;
            return digits > 0;
        }

        private static boolean isDigit(char sign) {
            return sign >= '0' && sign <= '9';
        }
    }
}
