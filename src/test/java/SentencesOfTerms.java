/** A test for each sentence under "Terms" but those of Texts, Reasons and Changes, and for Exceptions and Details. */
final class SentencesOfTerms {
    private static final int LEAST = Integer.MIN_VALUE;
    private static final int MOST = Integer.MAX_VALUE;
    private static final int[] PLACES = {0, 3, 7, 12};
    private static final int[] UNNOTICED = {4, 9, 14, 20};
    private static final int[] GRAINS = {1, 2, 5, 10, 20, 50, 100, 200};

    static void tests(Document document) {
        document.part("Terms");
        markets(document);
        jars(document);
        bags(document);
        thumbs(document);
        weights(document);
        shortness(document);
        theScale(document);
        selling(document);
        oaths(document);
        days(document);
        exceptions(document);
        details(document);
        document.testedElsewhere("Examples: Each of them begins", "reason(2) = 0.");
    }

    private static void markets(Document document) {
        document.says("Markets. There are the markets 0 to 3").due("go(1) = 3; go(2) = 7; go(3) = 12; go(0) = 24")
            .due("account(1) = 0; jar(0, 9) = 0; bag(5) = 0; fill(0, 0, 9) = 9").missingFor("go(#)", -1, 4, LEAST, MOST)
            .thrownFor("IndexOutOfBoundsException", "oathUntil(#)", -1, 4, LEAST, MOST)
            .thrownFor("IndexOutOfBoundsException", "isNoticed(#)", -1, 4, LEAST, MOST)
            .thrownFor("IndexOutOfBoundsException", "pays(#, 0)", -1, 4, LEAST, MOST)
            .thrownFor("IndexOutOfBoundsException", "wouldGet(0, #)", -1, 4, LEAST, MOST);
        Run places = document.says(", at the places 0, 3, 7 and 12.");
        int[] way = {1, 0, 2, 0, 3, 0, 1, 2, 1, 3, 1, 2, 3, 2};
        int day = 0;
        int at = 0;
        for (int market : way) {
            day += Math.abs(PLACES[market] - PLACES[at]);
            at = market;
            places.due("go(" + market + ") = " + day + "; account(0) = " + day + "; account(1) = " + market);
        }
        buyers(document);
        document.says("There are the spices 0 to 4.").due("jar(0, 1) = 0; jar(1, 1) = 1; jar(2, 1) = 2; jar(3, 1) = 3")
            .due("jar(4, 1) = 4; jarOf(0, true) = 0; jarOf(4, true) = 4").refusedFor("jar(#, 1)", 1, 0, -1, 5, LEAST, MOST)
            .due("pays(0, 0) = 2; pays(0, 4) = 7").thrownFor("IllegalArgumentException", "pays(0, #)", -1, 5, LEAST, MOST);
        document.says("A market pays for 10 grains of a spice as many coins as 2 and what is left when 3 times the spice "
                + "and 5 times the market, together, are divided by 7.")
            .due("pays(0, 0) = 2; pays(0, 1) = 5; pays(0, 2) = 8; pays(0, 3) = 4; pays(0, 4) = 7").due("pays(1, 0) = 7")
            .due("pays(1, 1) = 3; pays(1, 2) = 6; pays(1, 3) = 2; pays(1, 4) = 5").due("pays(2, 0) = 5; pays(2, 1) = 8")
            .due("pays(2, 2) = 4; pays(2, 3) = 7; pays(2, 4) = 3").due("pays(3, 0) = 3; pays(3, 1) = 6; pays(3, 2) = 2")
            .due("pays(3, 3) = 5; pays(3, 4) = 8");
        document.says("The caravan is at the market 0 at first, in the day 0, with 20 coins.")
            .due("account(1) = 0; account(0) = 0; account(2) = 20; save() = 0").refused("go(0)", 13, 0)
            .times(10, "seal(0) = 0").due("account(2) = 0").refused("seal(0)", 12, 2);
    }

    private static void buyers(Document document) {
        int[] got = {82, 67, 48, 26};
        document.says("The buyers of the markets notice a thumb of more than 4, 9, 14 and 20.")
            .due("isNoticed(0) = false; isNoticed(3) = false; thumb(30) = 0; isNoticed(0) = true; isNoticed(3) = true");
        for (int market = 0; market < 4; market++) {
            Run run = document.again().due("jar(2, 900) = 0; bag(5) = 0; fill(0, 0, 100) = 100");
            if (market > 0) {
                run.due("go(" + market + ") = " + PLACES[market]);
            }
            int most = UNNOTICED[market];
            run.due("thumb(" + (most + 1) + ") = 0; isNoticed(" + market + ") = true").refused("sell(0)", 10, most)
                .due("thumb(" + most + ") = " + (most + 1) + "; isNoticed(" + market + ") = false; sell(0) = " + got[market]);
        }
    }

    private static void jars(Document document) {
        document.says("Jars. There are at most 6 jars, numbered from 0")
            .thrownFor("IndexOutOfBoundsException", "jarOf(#, false)", -1, 0, 1, LEAST, MOST).due("jar(0, 10) = 0")
            .due("jar(0, 11) = 1; jar(0, 12) = 2; jar(0, 13) = 3; jar(0, 14) = 4; jar(0, 15) = 5; account(4) = 6")
            .due("jarOf(0, false) = 10; jarOf(5, false) = 15").refused("jar(0, 16)", 2, 6)
            .thrownFor("IndexOutOfBoundsException", "jarOf(#, false)", -1, 6, LEAST, MOST).due("undo() = 5; account(4) = 5")
            .due("jar(0, 17) = 5; jarOf(5, false) = 17").refused("jar(0, 16)", 2, 6);
        document.says(", each of a spice, with 0 to 900 grains.").due("jar(1, 0) = 0; jar(1, 900) = 1; bag(5) = 0")
            .due("bag(5) = 1; bag(5) = 2").refusedFor("jar(1, #)", 1, 0, -1, 901, LEAST, MOST).due("fill(0, 1, 400) = 400")
            .due("fill(1, 1, 400) = 400; fill(2, 1, 100) = 100; jarOf(1, false) = 0; jarOf(1, true) = 1")
            .refused("fill(2, 1, 1)", 5, 0).refused("fill(2, 0, 1)", 5, 0).due("empty(0, 1) = 400; empty(1, 1) = 800")
            .due("empty(2, 1) = 900; jarOf(1, false) = 900; jar(1, 1) = 2; fill(0, 2, 1) = 1").refused("empty(0, 1)", 7, 0);
    }

    private static void bags(Document document) {
        document.says("Bags. There are at most 6 bags, numbered from 0")
            .thrownFor("IndexOutOfBoundsException", "bagOf(#, 0)", -1, 0, 1, LEAST, MOST)
            .due("bag(10) = 0; bag(11) = 1; bag(12) = 2; bag(13) = 3; bag(14) = 4; bag(15) = 5; account(5) = 6")
            .due("bagOf(0, 0) = 10; bagOf(5, 0) = 15").refused("bag(16)", 2, 6)
            .thrownFor("IndexOutOfBoundsException", "bagOf(#, 0)", -1, 6, LEAST, MOST)
            .due("undo() = 5; account(5) = 5; bag(17) = 5; bagOf(5, 0) = 17").refused("bag(16)", 2, 6);
        document.says(", each with a tare from 5 to 50")
            .refusedFor("bag(#)", 1, 0, 4, 51, 0, -5, LEAST, MOST)
            .due("bag(5) = 0; bag(50) = 1; bagOf(0, 0) = 5; bagOf(1, 0) = 50; told(0) = 5; told(1) = 50");
        document.says(", with dust from 0 to 20, at first 0").due("bag(5) = 0; bagOf(0, 1) = 0; beat(0) = 0")
            .due("bagOf(0, 1) = 0; days(19) = 19; days(1) = 20; days(1) = 20").due("days(60) = 20; bagOf(0, 1) = 20")
            .due("bag(5) = 1; bagOf(1, 1) = 0; beat(0) = 20; bagOf(0, 1) = 0; days(60) = 40");
        document.says(", and empty, as at first, or with 1 to 400 grains of a spice.")
            .due("jar(3, 900) = 0; bag(5) = 0; bagOf(0, 3) = 0; bagOf(0, 2) = -1")
            .refusedFor("fill(0, 0, #)", 1, 0, 0, -1, 401, LEAST, MOST)
            .due("fill(0, 0, 1) = 1; bagOf(0, 2) = 3").refused("fill(0, 0, 400)", 7, 399)
            .due("fill(0, 0, 399) = 400; bagOf(0, 3) = 400").refused("fill(0, 0, 1)", 7, 0)
            .due("empty(0, 0) = 900; bagOf(0, 3) = 0; bagOf(0, 2) = -1; fill(0, 0, 400) = 400; bagOf(0, 3) = 400");
        document.says("The load of a bag is its tare, its dust and its grains, together, and the thumb.")
            .due("jar(0, 900) = 0; bag(5) = 0; bagOf(0, 4) = 5; bag(50) = 1; fill(1, 0, 400) = 400; thumb(30) = 0")
            .due("bagOf(0, 4) = 35; bagOf(1, 4) = 480; days(60) = 40; bagOf(0, 4) = 55; bagOf(1, 4) = 500")
            .due("told(1) = 388; rest(1) = 112");
    }

    private static void thumbs(Document document) {
        document.says("Thumb. The thumb is from 0 to 30, at first 0.").due("account(3) = 0; thumb(0) = 0; thumb(30) = 0")
            .due("account(3) = 30").refusedFor("thumb(#)", 1, 0, -1, 31, LEAST, MOST).due("thumb(29) = 30; thumb(1) = 29")
            .due("thumb(0) = 1; account(3) = 0");
    }

    private static void weights(Document document) {
        Run run = document.says("Weights. There are the weights 0 to 7, of 1, 2, 5, 10, 20, 50, 100 and 200 grains.")
            .missingFor("seal(#)", -1, 8, LEAST, MOST)
            .thrownFor("IndexOutOfBoundsException", "weightOf(#, 0)", -1, 8, LEAST, MOST);
        for (int weight = 0; weight < 8; weight++) {
            run.due("weightOf(" + weight + ", 0) = " + GRAINS[weight] + "; seal(" + weight + ") = 0");
        }
        run.due("bag(5) = 0; onPan(0) = 4; bag(8) = 1; onPan(1) = 7; told(1) = 8");
    }

    private static void shortness(Document document) {
        document.says("A weight is short by 1 for each 8 times that it was used")
            .due("bag(20) = 0; weightOf(4, 1) = 0").times(7, "weigh(0) = 20")
            .due("weightOf(4, 2) = 7; weightOf(4, 1) = 0; weigh(0) = 20; weightOf(4, 2) = 8; weightOf(4, 1) = 1")
            .times(7, "weigh(0) = 21").due("weightOf(4, 2) = 15; weightOf(4, 1) = 1; weigh(0) = 21; weightOf(4, 1) = 2")
            .due("told(0) = 22");
        document.says("since it was sealed, or since the beginning").due("bag(20) = 0").times(8, "weigh(0) = 20")
            .due("weightOf(4, 1) = 1; seal(4) = 1; weightOf(4, 1) = 0; weightOf(4, 2) = 0").times(7, "weigh(0) = 20")
            .due("weightOf(4, 1) = 0; weigh(0) = 20; weightOf(4, 1) = 1")
            .due("seal(4) = 1; seal(4) = 0; weightOf(4, 2) = 0");
        Run run = document.says(", but not by more than a tenth of it.")
            .due("jar(0, 900) = 0; bag(50) = 0; fill(0, 0, 338) = 338");
        int[] most = {0, 0, 0, 1, 2, 5, 10, 20};
        for (int use = 0; use <= 176; use++) {
            for (int weight = 0; weight < 8 && use % 8 != 1; weight++) {
                run.due("weightOf(" + weight + ", 1) = " + Math.min(use / 8, most[weight]));
            }
            run.due("weigh(0) = 388");
        }
        run.due("account(13) = 38; weightOf(7, 2) = 177; weightOf(0, 2) = 177; weightOf(0, 1) = 0; weightOf(7, 1) = 20");
        Run hundred = document.says("What it weighs truly is less by as much.").due("jar(0, 900) = 0; bag(50) = 0")
            .due("bag(50) = 1; bag(50) = 2; fill(0, 0, 50) = 50; fill(1, 0, 49) = 49; fill(2, 0, 48) = 48");
        hundred.due("onPan(0) = 64; onPan(1) = 63; rest(1) = 11").times(8, "weigh(0) = 100")
            .due("weightOf(6, 1) = 1; onPan(1) = 64; told(1) = 100; rest(1) = 0; onPan(2) = 63; told(2) = 88; rest(2) = 10")
            .due("onPan(0) = 65; rest(0) = 0");
    }

    private static void theScale(Document document) {
        document.says("For a load, the weights are tried one by one, the heaviest one first")
            .due("bag(9) = 0; onPan(0) = 7; rest(0) = 1; bag(40) = 1; onPan(1) = 31; told(1) = 38; rest(1) = 2")
            .due("bag(50) = 2; onPan(2) = 32; bag(38) = 3; onPan(3) = 31; rest(3) = 0");
        Run every = document.says(": one is put onto the pan if it and those on the pan, truly together, are not more than the load.")
            .due("jar(0, 900) = 0; bag(5) = 0; told(0) = 5");
        for (int load = 6; load <= 405; load++) {
            every.due("fill(0, 0, " + (load - 5) + ") = " + (load - 5) + "; bagOf(0, 4) = " + load);
            weighedAt(every, load);
            every.due("empty(0, 0) = 900");
        }
        document.again().due("jar(0, 900) = 0; bag(10) = 0").times(8, "weigh(0) = 10").due("weightOf(3, 1) = 1")
            .due("onPan(0) = 9; told(0) = 11; bag(9) = 1; onPan(1) = 8; told(1) = 10; bag(8) = 2; onPan(2) = 7")
            .due("bag(29) = 3; onPan(3) = 24; told(3) = 30; rest(3) = 0; bag(28) = 4; onPan(4) = 23; told(4) = 28")
            .due("rest(4) = 0");
        document.says("The scale tells the sum of the weights on the pan, as if none was short.")
            .due("bag(10) = 0; told(0) = 10; bag(9) = 1; told(1) = 8").times(8, "weigh(0) = 10")
            .due("told(0) = 11; weigh(0) = 11; told(1) = 10; weigh(1) = 10; line(0) = 7; honest(0) = 11; toldAgain(0) = 11");
        document.says("The rest is the load less what these weigh truly.").due("jar(0, 900) = 0; bag(5) = 0; rest(0) = 0")
            .due("bag(9) = 1; rest(1) = 1; bag(18) = 2; rest(2) = 0; bag(49) = 3; rest(3) = 11").times(8, "weigh(2) = 18")
            .due("rest(2) = 1; told(2) = 18; bag(50) = 4; fill(4, 0, 400) = 400; rest(4) = 63; thumb(30) = 0")
            .due("rest(4) = 93; days(60) = 100; rest(4) = 113; told(4) = 388");
        document.says("What is weighed net is what the scale tells less the tare.").due("jar(2, 900) = 0; bag(45) = 0")
            .due("bag(8) = 1; bag(7) = 2; bag(5) = 3").due("fill(0, 0, 1) = 1; fill(1, 0, 1) = 1; fill(2, 0, 1) = 1")
            .due("fill(3, 0, 400) = 400").refused("sell(0)", 11, 38).refused("sell(1)", 11, 8).due("sell(2) = 0")
            .due("account(9) = 1; sell(3) = 306; account(9) = 384");
        document.says("Weighing. To weigh a bag, or to sell it, uses each weight that is put onto the pan once.")
            .due("jar(0, 900) = 0; bag(50) = 0; bag(5) = 1; fill(0, 0, 338) = 338; onPan(0) = 255; weigh(0) = 388")
            .due("weightOf(0, 2) = 1; weightOf(1, 2) = 1; weightOf(2, 2) = 1; weightOf(3, 2) = 1; weightOf(7, 2) = 1")
            .due("sell(0) = 67").due("weightOf(0, 2) = 2; weightOf(1, 2) = 2; weightOf(2, 2) = 2; weightOf(3, 2) = 2")
            .due("weightOf(7, 2) = 2").due("onPan(1) = 4; weigh(1) = 5; weightOf(2, 2) = 3; weightOf(1, 2) = 2")
            .due("weightOf(3, 2) = 2; told(0) = 50; line(0) = 5").due("wouldGet(0, 0) = throws NoSuchElementException")
            .due("weightOf(5, 2) = 2; weightOf(6, 2) = 2; weightOf(4, 2) = 2");
    }

    /** What lies on the pan for the bag 0 while no weight is short. */
    private static void weighedAt(Run run, int load) {
        int left = load;
        int bits = 0;
        for (int weight = 7; weight >= 0; weight--) {
            if (left >= GRAINS[weight]) {
                left -= GRAINS[weight];
                bits += (int) Math.pow(2, weight);
            }
        }
        run.due("onPan(0) = " + bits + "; told(0) = " + (load - left) + "; rest(0) = " + left);
    }

    private static void selling(Document document) {
        document.says("Selling. To sell a bag, the caravan gets what the market pays for 10 grains, times what is weighed net, divided by 10")
            .due("jar(0, 900) = 0; jar(1, 900) = 1; bag(5) = 0; fill(0, 1, 1) = 1; sell(0) = 0; fill(0, 1, 2) = 2")
            .due("sell(0) = 1").due("fill(0, 1, 3) = 3; sell(0) = 1; fill(0, 1, 5) = 5; sell(0) = 2; fill(0, 0, 3) = 3")
            .due("sell(0) = 0").due("fill(0, 0, 5) = 5; sell(0) = 1; fill(0, 0, 8) = 8; sell(0) = 1; account(2) = 26")
            .due("account(11) = 6");
        document.again().due("jar(0, 900) = 0; bag(5) = 0; fill(0, 0, 10) = 10; sell(0) = 2; fill(0, 0, 9) = 9")
            .due("told(0) = 13; sell(0) = 1");
        document.says("; and a tenth of that more, if an oath is in force here.").due("jar(0, 900) = 0; bag(5) = 0")
            .due("oath() = 19; fill(0, 0, 45) = 45; sell(0) = 9; fill(0, 0, 50) = 50; sell(0) = 11")
            .due("fill(0, 0, 95) = 95; sell(0) = 20; fill(0, 0, 100) = 100; sell(0) = 22; account(11) = 62")
            .due("account(2) = 82");
        document.again().due("jar(0, 900) = 0; bag(5) = 0; oath() = 19; go(1) = 3; beat(0) = 3; fill(0, 0, 95) = 95")
            .due("sell(0) = 66").due("oath() = 22; fill(0, 0, 95) = 95; sell(0) = 72");
        document.again().due("jar(0, 900) = 0; bag(5) = 0; oath() = 19; days(19) = 19; beat(0) = 19; fill(0, 0, 50) = 50")
            .due("sell(0) = 11").due("days(1) = 1; beat(0) = 1; fill(0, 0, 50) = 50; sell(0) = 10");
        document.says("The bag is empty then, and keeps its dust.").due("jar(0, 900) = 0; bag(5) = 0; fill(0, 0, 400) = 400")
            .due("days(20) = 20; sell(0) = 76; bagOf(0, 3) = 0; bagOf(0, 2) = -1").due("bagOf(0, 1) = 20; bagOf(0, 0) = 5")
            .due("jarOf(0, false) = 500; fill(0, 0, 1) = 1").due("sell(0) = 4").refused("sell(0)", 6, 0);
    }

    private static void oaths(Document document) {
        document.says("Oaths. An oath is sworn at the market where the caravan is").due("go(2) = 7; oath() = 26")
            .due("oathUntil(2) = 26; account(12) = 1").thrownFor("NoSuchElementException", "oathUntil(#)", 0, 1, 3)
            .due("go(3) = 12; oath() = 31; oathUntil(3) = 31; oathUntil(2) = 26; account(12) = 2");
        document.says("; it is in force there for 20 days: in the day in which it is sworn, and in the 19 days behind it.")
            .due("days(7) = 0; oath() = 26; oathUntil(0) = 26").refused("oath()", 8, 20).due("days(1) = 0")
            .refused("oath()", 8, 19).due("days(18) = 0; account(0) = 26; oathUntil(0) = 26; account(12) = 1")
            .refused("oath()", 8, 1).due("days(1) = 0; account(12) = 0").thrown("NoSuchElementException", "oathUntil(0)")
            .due("oath() = 46; oathUntil(0) = 46");
        document.says("Where an oath is in force, the thumb is 0: it cannot be set")
            .due("thumb(1) = 0").refused("oath()", 9, 1).due("thumb(0) = 1; oath() = 19; account(3) = 0")
            .refusedFor("thumb(#)", 8, 20, 0, 1, 30).due("days(19) = 0").refusedFor("thumb(#)", 8, 1, 0, 1, 30)
            .due("days(1) = 0; thumb(30) = 0; account(3) = 30");
        document.says(", and becomes 0 when the caravan comes there.")
            .due("oath() = 19; go(1) = 3; thumb(30) = 0; go(0) = 6; account(3) = 0; undo() = 3; account(3) = 30");
        document.again().due("oath() = 19; go(1) = 3; thumb(5) = 0; days(13) = 0; go(0) = 19; account(3) = 0")
            .refused("thumb(5)", 8, 1);
        document.again().due("oath() = 19; go(1) = 3; thumb(5) = 0; days(14) = 0; go(0) = 20; account(3) = 5; thumb(6) = 5");
        document.again().due("oath() = 19; go(1) = 3; thumb(5) = 0; go(2) = 7; account(3) = 5; go(3) = 12; account(3) = 5");
    }

    private static void days(Document document) {
        document.says("Days. To go to another market takes as many days as the places are apart.").refused("go(0)", 13, 0)
            .due("go(1) = 3; go(2) = 7; go(3) = 12; go(2) = 17; go(1) = 21; go(0) = 24; go(3) = 36; go(0) = 48")
            .due("go(2) = 55; go(0) = 62; go(1) = 65; go(3) = 74; account(0) = 74");
        document.says("When a day goes by, the dust of each bag becomes 1 more, up to 20.").due("bag(5) = 0; days(1) = 1")
            .due("bag(6) = 1; days(18) = 37; bagOf(0, 1) = 19; bagOf(1, 1) = 18; days(1) = 39; days(1) = 40")
            .due("days(1) = 40; bagOf(0, 1) = 20; bagOf(1, 1) = 20; beat(1) = 20; go(1) = 25; bagOf(1, 1) = 3")
            .due("bagOf(0, 1) = 20").due("days(60) = 40; go(3) = 94; bagOf(1, 1) = 20");
        document.again().due("bag(5) = 0; bag(5) = 1; bag(5) = 2; bag(5) = 3; bag(5) = 4; bag(5) = 5; days(21) = 120")
            .due("bagOf(5, 1) = 20");
    }

    private static void exceptions(Document document) {
        document.says("Exceptions. A call that throws an exception leaves the state unchanged, unless stated otherwise.")
            .due("jar(0, 900) = 0; jar(1, 900) = 1; bag(45) = 0; bag(5) = 1; fill(0, 0, 1) = 1; thumb(5) = 0; line(0) = 7")
            .text("o;x").refused("jar(5, 9)", 1, 0).refused("bag(4)", 1, 0).refused("fill(0, 1, 1)", 4, 0)
            .refused("empty(0, 1)", 4, 0).refused("beat(2)", 3, 2).refused("thumb(31)", 1, 0).refused("weigh(2)", 3, 2)
            .refused("sell(0)", 10, 4).refused("oath()", 9, 5).refused("go(0)", 13, 0).refused("seal(8)", 3, 8)
            .refused("days(61)", 1, 0)
            .thrown("IndexOutOfBoundsException", "jarOf(2, true)", "bagOf(2, 0)", "weightOf(8, 0)", "told(2)")
            .thrown("IndexOutOfBoundsException", "toldAgain(2)", "onPan(2)", "rest(2)", "honest(2)", "pays(4, 0)")
            .thrown("IndexOutOfBoundsException", "wouldGet(2, 0)", "bestMarket(2)")
            .thrown("IndexOutOfBoundsException", "oathUntil(4)", "isNoticed(4)", "line(2)", "character(7)")
            .thrown("IllegalArgumentException", "bagOf(0, 6)", "weightOf(0, 4)", "pays(0, 5)", "reason(3)", "account(16)")
            .thrown("NoSuchElementException", "wouldGet(1, 0)", "bestMarket(1)", "oathUntil(0)", "ranked(2)")
            .thrown("ArithmeticException", "honestShare()").thrown("IllegalStateException", "restore()");
        document.again().thrown("ArithmeticException", "meanDust()").thrown("IllegalStateException", "undo()")
            .thrown("NoSuchElementException", "reason(0)").text("o".repeat(60))
            .thrown("IllegalStateException", "append('o')");
        document.says("If several conditions of a method are fulfilled, the one that is listed first determines the exception.")
            .due("jar(0, 9) = 0; bag(5) = 0")
            .thrown("IndexOutOfBoundsException", "bagOf(1, 6)", "bagOf(-1, -1)", "weightOf(8, 4)")
            .thrown("IndexOutOfBoundsException", "weightOf(-1, -1)", "pays(4, 5)", "pays(-1, -1)", "wouldGet(0, 4)")
            .thrown("IndexOutOfBoundsException", "wouldGet(0, -1)", "wouldGet(1, 0)", "bestMarket(1)")
            .thrown("IndexOutOfBoundsException", "oathUntil(4)", "oathUntil(-1)")
            .thrown("IllegalArgumentException", "reason(3)", "reason(-1)")
            .thrown("NoSuchElementException", "wouldGet(0, 3)", "reason(2)").faulty("w9;", 3)
            .thrown("NoSuchElementException", "reason(0)");
    }

    private static void details(Document document) {
        document.says("Details. The load of a bag has the thumb in it, too.")
            .due("bag(5) = 0; thumb(30) = 0; bagOf(0, 4) = 35; told(0) = 35; thumb(0) = 30; bagOf(0, 4) = 5; told(0) = 5");
        document.says("Weights get short behind the weighing by which they are used.")
            .due("bag(10) = 0").times(7, "weigh(0) = 10").due("weigh(0) = 10; weigh(0) = 11");
        Run sales = document.again().due("jar(2, 900) = 0; bag(5) = 0");
        sales.times(8, "fill(0, 0, 5) = 5; sell(0) = 4").due("account(9) = 40; weightOf(3, 1) = 1; fill(0, 0, 5) = 5")
            .due("sell(0) = 4").due("account(9) = 46; fill(0, 0, 4) = 4; sell(0) = 4; account(9) = 51");
        document.says("The tenth more is of the coins rounded down, and rounded down itself.").due("jar(1, 900) = 0")
            .due("jar(0, 900) = 1; bag(6) = 0; oath() = 19; fill(0, 0, 19) = 19; told(0) = 25; wouldGet(0, 0) = 9")
            .due("sell(0) = 9; fill(0, 1, 94) = 94; told(0) = 100; sell(0) = 19; fill(0, 1, 99) = 99; told(0) = 105")
            .due("sell(0) = 20");
        document.says("Where an oath is in force, the thumb cannot be set to 0 either.").due("oath() = 19")
            .refused("thumb(0)", 8, 20).due("days(19) = 0").refused("thumb(0)", 8, 1).due("days(1) = 0; thumb(0) = 0");
        document.says("A bag is emptied as a whole, or not at all.")
            .due("jar(1, 900) = 0; jar(1, 700) = 1; bag(5) = 0; fill(0, 0, 201) = 201").refused("empty(0, 1)", 7, 200)
            .due("bagOf(0, 3) = 201; jarOf(1, false) = 700; fill(0, 1, 1) = 202; jarOf(0, false) = 699")
            .refused("empty(0, 1)", 7, 201).due("jar(1, 698) = 2; empty(0, 2) = 900; bagOf(0, 3) = 0; bagOf(0, 2) = -1");
        document.says("What a market would give is told with the thumb as it is now, whatever an oath there would do to it.")
            .due("jar(2, 900) = 0; bag(5) = 0; fill(0, 0, 50) = 50; oath() = 19; go(1) = 3; beat(0) = 3")
            .due("wouldGet(0, 0) = 44; thumb(30) = 0").due("told(0) = 85; wouldGet(0, 0) = 70; wouldGet(0, 1) = 48")
            .due("bestMarket(0) = 0; go(0) = 6; beat(0) = 3; wouldGet(0, 0) = 44");
    }
}
