/** Boundary cases of the promises 21 to 26: what would be. */
final class ForecastBoundaries extends Slivers {
    static void all() {
        ifRun();
        bestLag();
        bestFeed();
        mean();
        wasteShare();
        digest();
    }

    private static void ifRun() {
        String section = "Promise 21";
        Sentence.plain(section, "Returns the number.");
        Sentence.holds(section, "Tells what a run would bring.", ForecastBoundaries::asARunBrings);
        Sentence.holds(section, "`steps`: 1 to 40", ForecastBoundaries::forecastLengths);
        Sentence.holds(section, "0: how many steps would be done", ForecastBoundaries::stepsThatWouldBe);
        Sentence.holds(section, "1: the spread of the can that takes what comes out, then", ForecastBoundaries::spreadThen);
        Sentence.holds(section, "2: its steps, as can() tells them, then", ForecastBoundaries::stepsOfTheCanThen);
        Sentence.holds(section, "3: the weight that would be waste by it", ForecastBoundaries::wasteByIt);
        Sentence.holds(section, "4: why the next step could not be done then, 0 if it could", ForecastBoundaries::whyThen);
        Sentence.holds(section, "Throws `IllegalArgumentException` if steps or what is out of range", ForecastBoundaries::noForecast);
    }

    private static void forecasts(String what, DrawnSlivers x, int steps, int... due) {
        for (int number = 0; number < 5; number++) {
            Check.same(what + ": ifRun(" + steps + ", " + number + ")", x.ifRun(steps, number), due[number]);
        }
    }

    private static void asARunBrings() {
        for (int steps = 1; steps <= 12; steps++) {
            DrawnSlivers x = fed("20,45,60,33,80,999,20,35,0,5");
            put(x, 7, "1*9");
            x.run(2);
            x.set(0, 2);
            int waste = x.count(6);
            int[] told = new int[5];
            for (int number = 0; number < 5; number++) {
                told[number] = x.ifRun(steps, number);
            }
            Check.same("steps", told[0], x.run(steps));
            Check.same("spread", told[1], x.can(7, 4));
            Check.same("steps of the can", told[2], x.can(7, 5));
            Check.same("waste", told[3], x.count(6) - waste);
            Check.same("why", told[4], x.why());
        }
    }

    private static void forecastLengths() {
        DrawnSlivers x = fed("20*39,25");
        forecasts("1 step", x, 1, 1, 0, 0, 0, 0);
        forecasts("39 steps", x, 39, 39, 0, 0, 0, 0);
        forecasts("40 steps", x, 40, 40, 5, 5, 0, 4);
    }

    private static void stepsThatWouldBe() {
        Check.same("none", new DrawnSlivers().ifRun(40, 0), 0);
        DrawnSlivers x = fed("20,999,20");
        Check.same("also the one that laps", x.ifRun(40, 0), 2);
        x.run(40);
        Check.same("none of a stopped one", x.ifRun(40, 0), 0);
        x.clear();
        Check.same("those ahead are not counted", x.ifRun(40, 0), 1);
    }

    private static void spreadThen() {
        DrawnSlivers x = fed("20,45,20");
        Check.same("of one metre", x.ifRun(1, 1), 0);
        Check.same("of three", x.ifRun(2, 1), 3);
        put(x, 7, "0,9");
        Check.same("with what is there", x.ifRun(1, 1), 20);
        x.feed(0);
        Check.same("of what is there alone", x.ifRun(1, 1), 9);
        x.out(6);
        Check.same("of an empty can", x.ifRun(1, 1), 0);
        DrawnSlivers lapping = fed("999");
        Check.same("empty as all lapped", lapping.ifRun(1, 1), 0);
    }

    private static void stepsOfTheCanThen() {
        DrawnSlivers x = fed("20,45,20");
        Check.same("of one metre", x.ifRun(1, 2), 0);
        Check.same("of three", x.ifRun(2, 2), 3 + 1);
        Check.same("of four", x.ifRun(40, 2), 3 + 1 + 2);
        put(x, 7, "0,9");
        Check.same("with what is there", x.ifRun(1, 2), 9 + 11);
        x.feed(0);
        Check.same("of what is there alone", x.ifRun(1, 2), 9);
        x.out(6);
        Check.same("of an empty can", x.ifRun(1, 2), 0);
    }

    private static void wasteByIt() {
        DrawnSlivers x = drawnBy(2, "120,121,999");
        Check.same("none", x.ifRun(1, 3), 0);
        Check.same("61", x.ifRun(40, 3), 61);
        put(x, 5, "7");
        x.tip(5);
        Check.same("what was waste ahead is not counted", x.ifRun(40, 3), 61);
        x.run(40);
        Check.same("none of a stopped one", x.ifRun(40, 3), 0);
        x.clear();
        Check.same("999", x.ifRun(40, 3), 999);
    }

    private static void whyThen() {
        Check.same("2", new DrawnSlivers().ifRun(1, 4), 2);
        DrawnSlivers x = fed("20,999,20");
        Check.same("0", x.ifRun(1, 4), 0);
        Check.same("1", x.ifRun(2, 4), 1);
        x.feed(129);
        Check.same("3", x.ifRun(1, 4), 3);
        Check.same("4", fed("20").ifRun(1, 4), 4);
        DrawnSlivers y = fed("20*2");
        put(y, 7, "1*39");
        Check.same("5", y.ifRun(40, 4), 5);
        Check.same("0 now", y.why(), 0);
    }

    private static void noForecast() {
        DrawnSlivers x = fed("20");
        for (int wrong : new int[] {0, -1, 41, LOW, HIGH}) {
            Check.badArgument("ifRun(" + wrong + ", 0)", () -> x.ifRun(wrong, 0));
            Check.badArgument("ifRun(" + wrong + ", 4)", () -> x.ifRun(wrong, 4));
        }
        for (int wrong : new int[] {-1, 5, LOW, HIGH}) {
            Check.badArgument("ifRun(1, " + wrong + ")", () -> x.ifRun(1, wrong));
            Check.badArgument("ifRun(40, " + wrong + ")", () -> x.ifRun(40, wrong));
        }
    }

    // ---- bestLag

    private static void bestLag() {
        String section = "Promise 22";
        Sentence.plain(section, "Finds the best lag of the feeler for a run.");
        Sentence.holds(section, "`steps`: 1 to 40", ForecastBoundaries::lagOfLengths);
        Sentence.holds(section, "Returns the lag, 0 to 6, with which, as setting 0", ForecastBoundaries::eachLag);
        Sentence.holds(section, "the can that takes what comes out would have the fewest steps", ForecastBoundaries::fewestSteps);
        Sentence.holds(section, "of several the least", ForecastBoundaries::leastLag);
        Sentence.holds(section, "Throws `IllegalArgumentException` if steps is out of range", ForecastBoundaries::lagOfNoLength);
    }

    /** A lag of k keeps the first k metres at 40, as the can that takes them has it; behind them they are halved. */
    private static DrawnSlivers keepingWhole() {
        DrawnSlivers x = fed("40*40");
        x.set(1, 1);
        put(x, 7, "40");
        return x;
    }

    private static void lagOfLengths() {
        DrawnSlivers x = keepingWhole();
        Check.same("1 step", x.bestLag(1), 1);
        Check.same("2 steps", x.bestLag(2), 2);
        // At last all that come behind are 20: the first of them is the one step of 20, with each lag.
        Check.same("40 steps", x.bestLag(40), 0);
    }

    private static void eachLag() {
        DrawnSlivers x = keepingWhole();
        for (int steps = 1; steps <= 6; steps++) {
            Check.same("a run of " + steps, x.bestLag(steps), steps);
        }
        Check.same("a run of 7: all halve some", x.bestLag(7), 0);
        x.set(0, 5);
        Check.same("whatever the lag is", x.bestLag(3), 3);
        Check.same("it stays", x.setting(0), 5);
    }

    private static int lagByRuns(DrawnSlivers x, int steps) {
        int best = -1;
        int fewest = HIGH;
        for (int lag = 0; lag <= 6; lag++) {
            x.set(0, lag);
            x.run(steps);
            int then = x.can(x.count(2), 5);
            x.undo();
            x.undo();
            if (then < fewest) {
                best = lag;
                fewest = then;
            }
        }
        return best;
    }

    private static void fewestSteps() {
        String[] slivers = {"80,40,30,60,30,60", "20,40,60,40,20,40,60,40,20", "10,90,10,90,10,90,10", "33,1,99,44,21,9,88",
            "5,140,7,139,9,20,160,3", "60,30,60,30,59,31", "999,5,5", "25,50,25,50,75,100,75,50,25"};
        for (String sliver : slivers) {
            for (int steps = 1; steps <= 9; steps++) {
                DrawnSlivers x = fed(sliver);
                x.set(1, 2);
                put(x, 7, "35,20");
                Check.same(sliver + " by " + steps, x.bestLag(steps), lagByRuns(x, steps));
            }
        }
    }

    private static void leastLag() {
        Check.same("nothing fed", new DrawnSlivers().bestLag(40), 0);
        DrawnSlivers x = keepingWhole();
        x.set(3, 0);
        x.set(0, 6);
        Check.same("without the feeler", x.bestLag(6), 0);
        x.set(3, 1);
        x.run(1);
        x.set(0, 2);
        // The feeler remembers 40: with the lags 0 and 1 the next metre is halved, with those above not.
        Check.same("2 to 6 are the same", x.bestLag(1), 2);
        DrawnSlivers stopped = fed("999,20");
        stopped.run(1);
        stopped.set(0, 3);
        Check.same("stopped", stopped.bestLag(40), 0);
    }

    private static void lagOfNoLength() {
        DrawnSlivers x = keepingWhole();
        for (int wrong : new int[] {0, -1, 41, LOW, HIGH}) {
            Check.badArgument("bestLag(" + wrong + ")", () -> x.bestLag(wrong));
        }
    }

    // ---- bestFeed

    private static void bestFeed() {
        String section = "Promise 23";
        Sentence.plain(section, "Finds the best cans to feed.");
        Sentence.holds(section, "`many`: 1 to 6", ForecastBoundaries::manyAtItsEdges);
        Sentence.holds(section, "the mask of just so many cans", ForecastBoundaries::justSoMany);
        Sentence.holds(section, "none of them empty", ForecastBoundaries::noneEmpty);
        Sentence.holds(section, "and not the one that takes what comes out", ForecastBoundaries::notTheTaker);
        Sentence.holds(section, "whose front metres together", ForecastBoundaries::frontsTogether);
        Sentence.holds(section, "differ the least from setting 1 times setting 2", ForecastBoundaries::differTheLeast);
        Sentence.holds(section, "of several the least mask", ForecastBoundaries::leastMask);
        Sentence.holds(section, "NONE if there are not so many such cans", ForecastBoundaries::notSoManyCans);
        Sentence.holds(section, "Throws `IllegalArgumentException` if many is out of range", ForecastBoundaries::noMany);
    }

    private static DrawnSlivers fronts(int... weights) {
        DrawnSlivers x = new DrawnSlivers();
        for (int can = 0; can < weights.length; can++) {
            if (weights[can] >= 0) {
                put(x, can, Integer.toString(weights[can]));
            }
        }
        return x;
    }

    private static void manyAtItsEdges() {
        DrawnSlivers x = fronts(1, 1, 1, 1, 1, 1, 80);
        Check.same("1", x.bestFeed(1), 64);
        Check.same("6", x.bestFeed(6), 64 + 31);
        DrawnSlivers y = fronts(5, 10, 20, 40, 80, 99, 99);
        Check.same("6 of the lightest", y.bestFeed(6), 63);
        y.set(1, 8);
        y.set(2, 99);
        Check.same("6 of the heaviest", y.bestFeed(6), 126);
    }

    private static void justSoMany() {
        Check.same("one, though two would fit", fronts(50, 30, 55).bestFeed(1), 4);
        Check.same("two, though one would fit", fronts(50, 80, 55).bestFeed(2), 5);
        DrawnSlivers x = fronts(80, 0, 80, 0);
        Check.same("one that fits", x.bestFeed(1), 1);
        Check.same("two that fit", x.bestFeed(2), 3);
        Check.same("three that fit", x.bestFeed(3), 11);
        Check.same("four", x.bestFeed(4), 15);
    }

    private static void noneEmpty() {
        DrawnSlivers x = fronts(-1, 500, -1, 500);
        Check.same("one", x.bestFeed(1), 2);
        Check.same("two", x.bestFeed(2), 10);
        Check.same("three", x.bestFeed(3), -1);
        put(x, 0, "0");
        Check.same("a front of 0 is no empty can", x.bestFeed(3), 11);
        x.tip(0);
        Check.same("a tipped one is", x.bestFeed(3), -1);
        Check.same("fed ones that are empty too", x.feed(255) + x.bestFeed(2), 10);
    }

    private static void notTheTaker() {
        DrawnSlivers x = fronts(500, 80, 500, 500, 500, 500, 500, 80);
        Check.same("7 takes", x.bestFeed(1), 2);
        x.out(1);
        Check.same("1 takes", x.bestFeed(1), 128);
        x.out(0);
        Check.same("0 takes", x.bestFeed(1), 2);
        Check.same("six of the seven others", x.bestFeed(6), 128 + 62);
    }

    private static void frontsTogether() {
        DrawnSlivers x = new DrawnSlivers();
        put(x, 0, "50,30");
        put(x, 1, "31,80");
        put(x, 2, "50,1");
        Check.same("50 and 31", x.bestFeed(2), 3);
        Check.same("50 alone", x.bestFeed(1), 1);
        x.feed(2);
        x.run(1);
        Check.same("80 then", x.bestFeed(1), 2);
        Check.same("50 and 50 then", x.bestFeed(2), 5);
        DrawnSlivers heavy = fronts(999, 999, 999, 999, 999, 999, 999);
        Check.same("5994", heavy.bestFeed(6), 63);
    }

    private static void differTheLeast() {
        DrawnSlivers x = fronts(79, 82, 4, 792, 1);
        Check.same("80: 1 below", x.bestFeed(1), 1);
        x.set(2, 21);
        Check.same("84: 2 below", x.bestFeed(1), 2);
        x.set(1, 1);
        x.set(2, 1);
        Check.same("1", x.bestFeed(1), 16);
        x.set(2, 3);
        Check.same("3: 1 above", x.bestFeed(1), 4);
        x.set(1, 8);
        x.set(2, 99);
        Check.same("792", x.bestFeed(1), 8);
        x.set(2, 10);
        Check.same("80 again", x.bestFeed(1), 1);
        x.set(3, 0);
        x.set(4, 10);
        Check.same("the other settings don't matter", x.bestFeed(1), 1);
    }

    private static void leastMask() {
        DrawnSlivers x = fronts(75, 85, 80, 80, 80);
        Check.same("three of 80", x.bestFeed(1), 4);
        x.tip(2);
        x.tip(3);
        x.tip(4);
        Check.same("5 below and 5 above", x.bestFeed(1), 1);
        x.tip(0);
        put(x, 4, "75");
        Check.same("5 above and 5 below", x.bestFeed(1), 2);
        DrawnSlivers y = fronts(20, 20, 20, 20, 20, 20, 20);
        Check.same("four of seven", y.bestFeed(4), 15);
        y.out(0);
        Check.same("four of the others", y.bestFeed(4), 30);
    }

    private static void notSoManyCans() {
        DrawnSlivers x = new DrawnSlivers();
        for (int many = 1; many <= 6; many++) {
            Check.same("of none " + many, x.bestFeed(many), -1);
        }
        put(x, 7, "80");
        Check.same("but the one that takes", x.bestFeed(1), -1);
        for (int can = 0; can < 6; can++) {
            put(x, can, "20");
            Check.same("as many as there are", x.bestFeed(can + 1), (1 << can + 1) - 1);
            if (can < 5) {
                Check.same("one more", x.bestFeed(can + 2), -1);
            }
        }
    }

    private static void noMany() {
        DrawnSlivers x = fronts(20, 20, 20, 20, 20, 20, 20);
        for (int wrong : new int[] {0, -1, 7, 8, LOW, HIGH}) {
            Check.badArgument("bestFeed(" + wrong + ")", () -> x.bestFeed(wrong));
        }
    }

    // ---- mean

    private static void mean() {
        String section = "Promise 24";
        Sentence.plain(section, "Returns the mean weight of the metres of a can.");
        Sentence.holds(section, "`can`: 0 to 7", ForecastBoundaries::meansOfEdgeCans);
        Sentence.holds(section, "Returns can(can, 1) as a double, divided by can(can, 0)", ForecastBoundaries::means);
        Sentence.holds(section, "0.0 if it is empty", ForecastBoundaries::meanOfAnEmptyCan);
        Sentence.holds(section, "Throws `IndexOutOfBoundsException` if there is no such can", ForecastBoundaries::meanOfNoCan);
    }

    private static void sameMean(String what, DrawnSlivers x, int can, double due) {
        Check.same(what, Double.doubleToRawLongBits(x.mean(can)), Double.doubleToRawLongBits(due));
    }

    private static void meansOfEdgeCans() {
        DrawnSlivers x = fronts(5, -1, -1, -1, -1, -1, -1, 6);
        sameMean("can 0", x, 0, 5.0);
        sameMean("can 7", x, 7, 6.0);
    }

    private static void means() {
        DrawnSlivers x = new DrawnSlivers();
        put(x, 0, "999*40");
        put(x, 1, "0*40");
        put(x, 2, "1,0*39");
        put(x, 3, "1,0*2");
        put(x, 4, "2,3");
        put(x, 5, "999*38,998");
        sameMean("the heaviest", x, 0, 999.0);
        sameMean("the lightest", x, 1, 0.0);
        sameMean("a 40th", x, 2, 1.0 / 40.0);
        sameMean("a third", x, 3, 1.0 / 3.0);
        sameMean("a half", x, 4, 2.5);
        sameMean("38960 by 39", x, 5, 38960.0 / 39.0);
    }

    private static void meanOfAnEmptyCan() {
        DrawnSlivers x = fronts(5);
        sameMean("a new one", x, 1, 0.0);
        x.tip(0);
        sameMean("a tipped one", x, 0, 0.0);
        x.feed(1);
        put(x, 0, "20");
        x.run(1);
        sameMean("one that ran out", x, 0, 0.0);
    }

    private static void meanOfNoCan() {
        DrawnSlivers x = fronts(5);
        for (int wrong : NO_CANS) {
            Check.noCan("mean(" + wrong + ")", () -> (long) x.mean(wrong));
        }
    }

    // ---- wasteShare

    private static void wasteShare() {
        String section = "Promise 25";
        Sentence.plain(section, "Returns how much was wasted.");
        Sentence.holds(section, "Returns count(6) as a float, divided by count(7)", ForecastBoundaries::shares);
        Sentence.holds(section, "0.0f if nothing was filled", ForecastBoundaries::shareOfNothing);
    }

    private static void sameShare(String what, DrawnSlivers x, float due) {
        Check.same(what, Float.floatToRawIntBits(x.wasteShare()), Float.floatToRawIntBits(due));
    }

    private static void shares() {
        DrawnSlivers x = fronts(1, 2, 999);
        sameShare("none", x, 0.0f);
        x.tip(0);
        sameShare("1 by 1002", x, 1.0f / 1002.0f);
        x.tip(1);
        sameShare("3 by 1002", x, 3.0f / 1002.0f);
        x.feed(4);
        x.run(1);
        sameShare("all, by a lap too", x, 1.0f);
        x.undo();
        sameShare("undone", x, 3.0f / 1002.0f);
        DrawnSlivers y = new DrawnSlivers();
        put(y, 0, "1");
        for (int round = 0; round < 50; round++) {
            put(y, 7, "999*40");
            y.tip(7);
        }
        sameShare("all but 1 of 1998001", y, 1998000.0f / 1998001.0f);
    }

    private static void shareOfNothing() {
        DrawnSlivers x = new DrawnSlivers();
        sameShare("a new one", x, 0.0f);
        x.tip(0);
        sameShare("an empty one is tipped", x, 0.0f);
        put(x, 0, "0*5");
        sameShare("weights of 0", x, 0.0f);
        x.tip(0);
        sameShare("weights of 0 are tipped", x, 0.0f);
        put(x, 0, "7");
        x.tip(0);
        sameShare("all", x, 1.0f);
        x.undo();
        x.undo();
        sameShare("undone", x, 0.0f);
    }

    // ---- digest

    private static void digest() {
        String section = "Promise 26";
        Sentence.plain(section, "Returns the hash.");
        Sentence.holds(section, "Computes a hash of the whole state.", ForecastBoundaries::allIsInTheHash);
        Sentence.holds(section, "The hash starts at 3697.", ForecastBoundaries::hashOfANewOne);
        Sentence.holds(section, "the hash becomes 31 * hash + v, in long arithmetic with overflow", ForecastBoundaries::overflow);
        Sentence.holds(section, "count(0) to count(11); the settings 0 to 4", ForecastBoundaries::hashOfSettings);
        Sentence.holds(section, "for each can its numbers 0 to 7, all its metres", ForecastBoundaries::hashOfCans);
        Sentence.holds(section, "the bits of mean (as Double.doubleToLongBits)", ForecastBoundaries::hashOfMeans);
        Sentence.holds(section, "feeler of 0 to 6; why; ifRun of 10 steps with 0 to 4; bestLag of 10 steps", ForecastBoundaries::hashOfRuns);
        Sentence.holds(section, "bestFeed of 1 to 6", ForecastBoundaries::hashOfFeeds);
        Sentence.holds(section, "the bits of wasteShare (as Float.floatToIntBits)", ForecastBoundaries::hashOfShares);
        Sentence.holds(section, "1 if there is a snapshot, otherwise 0", ForecastBoundaries::hashOfSnapshots);
        Sentence.holds(section, "the length of the buffer and each of its character codes", ForecastBoundaries::hashOfTexts);
    }

    private static final class Hash {
        private long hash = 3697;

        void add(long... values) {
            for (long value : values) {
                hash = 31 * hash + value;
            }
        }
    }

    /** The digest by what the other calls answer. */
    private static long digestOf(DrawnSlivers x, boolean kept, String buffer) {
        Hash h = new Hash();
        for (int what = 0; what <= 11; what++) {
            h.add(x.count(what));
        }
        for (int setting = 0; setting <= 4; setting++) {
            h.add(x.setting(setting));
        }
        for (int can = 0; can <= 7; can++) {
            for (int what = 0; what <= 7; what++) {
                h.add(x.can(can, what));
            }
            int metres = x.can(can, 0);
            for (int metre = 0; metre < metres; metre++) {
                h.add(x.metre(can, metre));
            }
            h.add(Double.doubleToLongBits(x.mean(can)));
        }
        for (int ago = 0; ago <= 6; ago++) {
            h.add(x.feeler(ago));
        }
        h.add(x.why());
        for (int what = 0; what <= 4; what++) {
            h.add(x.ifRun(10, what));
        }
        h.add(x.bestLag(10));
        for (int many = 1; many <= 6; many++) {
            h.add(x.bestFeed(many));
        }
        h.add(Float.floatToIntBits(x.wasteShare()), kept ? 1 : 0, buffer.length());
        for (char code : buffer.toCharArray()) {
            h.add(code);
        }
        return h.hash;
    }

    private static void sameDigest(String what, DrawnSlivers x) {
        Check.same(what, x.digest(), digestOf(x, false, ""));
    }

    private static void differs(String what, Act act) {
        DrawnSlivers x = TermsBoundaries.busy();
        DrawnSlivers y = TermsBoundaries.busy();
        act.on(y);
        Check.same(what + " is in the hash", x.digest() == y.digest() ? 1 : 0, 0);
    }

    private static void allIsInTheHash() {
        Check.same("the same calls, the same hash", TermsBoundaries.busy().digest(), TermsBoundaries.busy().digest());
        DrawnSlivers x = TermsBoundaries.busy();
        Check.same("the same hash again", x.digest(), x.digest());
        differs("a run", y -> y.run(1));
        differs("a tipped can", y -> y.tip(0));
        differs("a saved state", y -> y.tip(6));
        differs("what is fed", y -> y.feed(1));
        differs("a character", y -> y.append('1'));
        differs("the empty buffer", y -> y.clearBuffer());
    }

    private static void hashOfANewOne() {
        Hash h = new Hash();
        h.add(0, 0, 7, 0, 0, 0, 0, 0, 0, 0, 0, 0);
        h.add(0, 4, 20, 1, 60);
        for (int can = 0; can < 8; can++) {
            h.add(0, 0, -1, -1, 0, 0, 0, -1, 0);
        }
        h.add(-1, -1, -1, -1, -1, -1, -1);
        h.add(2);
        h.add(0, 0, 0, 0, 2);
        h.add(0);
        h.add(-1, -1, -1, -1, -1, -1);
        h.add(0, 0, 0);
        Check.same("a new one", new DrawnSlivers().digest(), h.hash);
    }

    private static void overflow() {
        DrawnSlivers x = new DrawnSlivers();
        for (int can = 0; can < 8; can++) {
            put(x, can, "999*40");
        }
        Check.same("all full", x.digest(), digestOf(x, false, ""));
        Check.same("a buffer of 60", digestWith(times("~", 60)), digestOf(new DrawnSlivers(), false, times("~", 60)));
    }

    private static long digestWith(String text) {
        return typed(text).digest();
    }

    private static void hashOfSettings() {
        DrawnSlivers x = new DrawnSlivers();
        x.set(0, 6);
        x.set(1, 8);
        x.set(2, 99);
        x.set(3, 0);
        x.set(4, 999);
        sameDigest("the greatest settings", x);
        DrawnSlivers y = new DrawnSlivers();
        y.set(1, 1);
        y.set(2, 1);
        y.set(4, 10);
        y.feed(255);
        y.out(0);
        for (int call = 0; call < 5; call++) {
            y.clear();
        }
        sameDigest("the least settings and six states", y);
    }

    private static void hashOfCans() {
        DrawnSlivers x = new DrawnSlivers();
        put(x, 0, "7");
        put(x, 3, "0*40");
        put(x, 7, "999,0,1,998");
        sameDigest("one, forty and four metres", x);
        x.tip(3);
        sameDigest("a tipped one", x);
    }

    private static void hashOfMeans() {
        for (int metres = 3; metres <= 40; metres++) {
            for (int weight = 0; weight < 1000; weight += 111) {
                DrawnSlivers x = new DrawnSlivers();
                put(x, 7, "1," + weight + (metres == 3 ? ",0" : ",0*" + (metres - 2)));
                put(x, 0, weight + "*" + metres);
                sameDigest(metres + " metres with " + weight, x);
            }
        }
    }

    private static void hashOfRuns() {
        String sliver = "20,45,60,33,80,21,20,35,0,5,61,999";
        sameDigest("ahead of a run", fed(sliver));
        DrawnSlivers x = fed(sliver);
        x.run(3);
        sameDigest("three remembered", x);
        x.run(4);
        sameDigest("seven remembered", x);
        x.set(0, 3);
        x.run(3);
        sameDigest("a lap ahead", x);
        DrawnSlivers ended = fed(sliver);
        ended.run(40);
        sameDigest("stopped or at the end", ended);
        DrawnSlivers y = fed("40*40");
        y.set(1, 1);
        put(y, 7, "40");
        sameDigest("just ten steps, by why then", y);
        DrawnSlivers lags = fed("40,47,47,40,40,27,20,20,27,27,40,20");
        lags.set(1, 2);
        Check.same("each length has its lag", lags.bestLag(9) + " " + lags.bestLag(10) + " " + lags.bestLag(11), "4 5 6");
        sameDigest("ten steps, by the best lag", lags);
        DrawnSlivers z = drawnBy(4, "20*11");
        sameDigest("full behind ten steps", z);
    }

    private static void hashOfFeeds() {
        DrawnSlivers x = fronts(5, 10, 20, 40, 80, 99, 99, 80);
        sameDigest("seven cans", x);
        x.out(3);
        sameDigest("seven others", x);
        x.tip(0);
        x.tip(1);
        sameDigest("five cans", x);
    }

    private static void hashOfShares() {
        for (int weight = 1; weight < 1000; weight += 37) {
            DrawnSlivers x = new DrawnSlivers();
            put(x, 0, Integer.toString(weight));
            put(x, 1, "999*9");
            x.tip(0);
            sameDigest(weight + " wasted", x);
            x.tip(1);
            sameDigest("all wasted", x);
            DrawnSlivers y = new DrawnSlivers();
            put(y, 0, Integer.toString(weight));
            put(y, 1, "7");
            y.tip(0);
            sameDigest(weight + " wasted, 7 not", y);
        }
        DrawnSlivers z = new DrawnSlivers();
        put(z, 0, "1");
        for (int round = 0; round < 30; round++) {
            put(z, 7, "999*40");
            z.tip(7);
        }
        sameDigest("all but 1 of much wasted", z);
        z.tip(0);
        sameDigest("all of much wasted", z);
    }

    private static void hashOfSnapshots() {
        DrawnSlivers x = fed("20,30");
        x.run(1);
        sameDigest("none", x);
        x.keep();
        Check.same("one", x.digest(), digestOf(x, true, ""));
        x.undo();
        Check.same("one behind undo", x.digest(), digestOf(x, true, ""));
        x.goBack();
        Check.same("one behind goBack", x.digest(), digestOf(x, true, ""));
    }

    private static void hashOfTexts() {
        for (String text : new String[] {"!", "~", "1,2*3", "*", times("5,", 30), times("!~", 30), "x!"}) {
            DrawnSlivers x = typed(text);
            Check.same("with " + text, x.digest(), digestOf(x, false, text));
            x.clearBuffer();
            Check.same("without " + text, x.digest(), digestOf(x, false, ""));
        }
        DrawnSlivers y = typed("12,34");
        y.fill(0);
        sameDigest("a buffer that was filled from", y);
        y.append('9');
        Check.same("a shorter one then", y.digest(), digestOf(y, false, "9"));
    }
}
