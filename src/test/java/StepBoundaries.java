/** Boundary cases of "A step". */
final class StepBoundaries extends Slivers {
    private static final String STEP = "A step";
    private static final String NOTHING = "-1,-1,-1,-1,-1,-1,-1";

    static void all() {
        Sentence.plain(STEP, "In a step of the frame, in this order:");
        Sentence.holds(STEP, "told as a mask (the bit k for the can k), at first none", StepBoundaries::mask);
        Sentence.holds(STEP, "one can takes what comes out, at first the can 7", StepBoundaries::takerAtFirst);
        Sentence.holds(STEP, "The front metre of each can that is fed is taken", StepBoundaries::frontsAreTaken);
        Sentence.holds(STEP, "The front metre of each can that is fed is taken", StepBoundaries::frontsOfFullOnes);
        Sentence.holds(STEP, "the sum of their weights is the feed", StepBoundaries::sums);
        Sentence.holds(STEP, "The feeler remembers the feed.", StepBoundaries::remembers);
        Sentence.holds(STEP, "the feed of so many steps ago as setting 0", StepBoundaries::tellsLater);
        Sentence.holds(STEP, "(with setting 0 as 0 that of this step)", StepBoundaries::tellsAtOnce);
        Sentence.holds(STEP, "if it does not remember so many steps, it tells nothing", StepBoundaries::tellsNothing);
        drafts();
        metres();
        stops();
        reasons();
        forgetting();
    }

    private static void mask() {
        DrawnSlivers x = new DrawnSlivers();
        Check.same("none at first", x.count(1), 0);
        for (int can = 0; can < 8; can++) {
            DrawnSlivers y = new DrawnSlivers();
            int taker = (can + 1) % 8;
            put(y, can, "20");
            y.feed(1 << can);
            y.out(taker);
            Check.same("the bit " + can, y.run(1), 1);
            Check.same("its can is empty " + can, y.can(can, 0), 0);
            Check.same("its metre came " + can, sliver(y, taker), "20");
        }
    }

    private static void takerAtFirst() {
        DrawnSlivers x = fed("20");
        Check.same("7 at first", x.count(2), 7);
        x.run(1);
        Check.same("7 takes", sliver(x, 7), "20");
    }

    private static void frontsAreTaken() {
        DrawnSlivers x = new DrawnSlivers();
        for (int can = 0; can < 7; can++) {
            put(x, can, can + "," + (can + 10));
        }
        x.feed(127 - 8);
        Check.same("a step", x.run(1), 1);
        for (int can = 0; can < 7; can++) {
            Check.same("can " + can, sliver(x, can), (can == 3 ? "3," : "") + (can + 10));
        }
        Check.same("the last metres", x.run(40), 1);
        for (int can = 0; can < 7; can++) {
            Check.same("metres of can " + can, x.can(can, 0), can == 3 ? 2 : 0);
        }
    }

    private static void frontsOfFullOnes() {
        for (int can = 0; can < 8; can++) {
            DrawnSlivers x = new DrawnSlivers();
            put(x, can, "20,21*38,22");
            x.feed(1 << can);
            x.out((can + 3) % 8);
            Check.same("a step from can " + can, x.run(1), 1);
            Check.same("39 are left", x.can(can, 0), 39);
            Check.same("the front, the back", x.metre(can, 0) + " " + x.metre(can, 38), "21 22");
            Check.same("all the others", x.run(40), 39);
            Check.same("none is left", x.can(can, 0), 0);
        }
    }

    private static void sums() {
        DrawnSlivers x = new DrawnSlivers();
        for (int can = 0; can < 7; can++) {
            put(x, can, "999,0," + (1 << can));
        }
        x.feed(127);
        x.set(4, 999);
        x.run(3);
        Check.same("999 of seven, 0 of seven, a power of 2 of each", feelerOf(x), "127,0,6993,-1,-1,-1,-1");
    }

    private static void remembers() {
        DrawnSlivers x = fed("0,999,5");
        x.run(1);
        Check.same("a feed of 0", feelerOf(x), "0,-1,-1,-1,-1,-1,-1");
        x.run(1);
        Check.same("a feed that lapped", feelerOf(x), "999,0,-1,-1,-1,-1,-1");
        x.run(1);
        Check.same("a step that is not done", feelerOf(x), "999,0,-1,-1,-1,-1,-1");
        DrawnSlivers y = fed("1,2,3,4,5,6,7,8,9");
        y.run(9);
        Check.same("no more than seven", feelerOf(y), "9,8,7,6,5,4,3");
        DrawnSlivers z = drawnBy(1, "5,6");
        z.run(2);
        Check.same("also if it does not even", feelerOf(z), "6,5,-1,-1,-1,-1,-1");
    }

    /** The drafts of the steps of a run, one digit each. */
    private static String drafts(DrawnSlivers x, int steps) {
        StringBuilder all = new StringBuilder();
        for (int step = 0; step < steps; step++) {
            x.run(1);
            all.append(x.count(4));
            x.tip(7);
        }
        return all.toString();
    }

    private static DrawnSlivers lagged(int lag) {
        DrawnSlivers x = fed("20,40,60,80,100,120,140,160,20,40");
        x.set(0, lag);
        x.set(4, 999);
        return x;
    }

    private static void tellsLater() {
        Check.same("lag 1", drafts(lagged(1), 10), "4123456781");
        Check.same("lag 2", drafts(lagged(2), 10), "4412345678");
        Check.same("lag 3", drafts(lagged(3), 10), "4441234567");
        Check.same("lag 5", drafts(lagged(5), 9), "444441234");
        Check.same("lag 6", drafts(lagged(6), 8), "44444412");
    }

    private static void tellsAtOnce() {
        Check.same("lag 0", drafts(lagged(0), 8), "12345678");
    }

    private static void tellsNothing() {
        DrawnSlivers x = lagged(6);
        x.run(5);
        Check.same("the sixth step", drafts(x, 1), "4");
        x.clear();
        Check.same("behind clear", drafts(x, 1), "4");
        x.set(0, 1);
        Check.same("one is remembered", drafts(x, 1), "7");
        x.set(0, 3);
        Check.same("two are, not three", drafts(x, 1), "4");
    }

    // ---- 3: the draft

    private static void drafts() {
        Sentence.holds(STEP, "The draft of this step is setting 1, if setting 3 is 0", StepBoundaries::draftWithoutFeeler);
        Sentence.holds(STEP, "or if the feeler tells nothing", StepBoundaries::draftOfNothing);
        Sentence.holds(STEP, "what the feeler tells divided by setting 2, to the nearest integer", StepBoundaries::nearest);
        Sentence.holds(STEP, "(a half is rounded up)", StepBoundaries::halves);
        Sentence.holds(STEP, "but at least 1", StepBoundaries::leastDraft);
        Sentence.holds(STEP, "and at most 8", StepBoundaries::mostDraft);
    }

    private static void draftWithoutFeeler() {
        for (int draft = 1; draft <= 8; draft++) {
            DrawnSlivers x = drawnBy(draft, "40");
            x.run(1);
            Check.same("draft", x.count(4), draft);
            Check.same("metres", x.can(7, 0), draft);
        }
    }

    private static void draftOfNothing() {
        for (int draft = 1; draft <= 8; draft++) {
            DrawnSlivers x = fed("40");
            x.set(1, draft);
            x.set(0, 1);
            x.run(1);
            Check.same("draft", x.count(4), draft);
        }
    }

    private static int draftBy(int wanted, int feed) {
        DrawnSlivers x = fed(Integer.toString(feed));
        x.set(2, wanted);
        x.set(4, 999);
        x.run(1);
        return x.count(4);
    }

    private static void nearest() {
        Check.same("29 by 20", draftBy(20, 29), 1);
        Check.same("31 by 20", draftBy(20, 31), 2);
        Check.same("49 by 20", draftBy(20, 49), 2);
        Check.same("51 by 20", draftBy(20, 51), 3);
        Check.same("31 by 21", draftBy(21, 31), 1);
        Check.same("32 by 21", draftBy(21, 32), 2);
        Check.same("73 by 21", draftBy(21, 73), 3);
        Check.same("74 by 21", draftBy(21, 74), 4);
        Check.same("1 by 1", draftBy(1, 1), 1);
        Check.same("7 by 1", draftBy(1, 7), 7);
    }

    private static void halves() {
        Check.same("30 by 20", draftBy(20, 30), 2);
        Check.same("50 by 20", draftBy(20, 50), 3);
        Check.same("70 by 20", draftBy(20, 70), 4);
        Check.same("3 by 2", draftBy(2, 3), 2);
        Check.same("15 by 2", draftBy(2, 15), 8);
        Check.same("147 by 98", draftBy(98, 147), 2);
    }

    private static void leastDraft() {
        Check.same("0 by 20", draftBy(20, 0), 1);
        Check.same("9 by 20", draftBy(20, 9), 1);
        Check.same("10 by 20", draftBy(20, 10), 1);
        Check.same("49 by 99", draftBy(99, 49), 1);
        Check.same("0 by 1", draftBy(1, 0), 1);
        DrawnSlivers x = fed("0");
        x.run(1);
        Check.same("a metre of 0 came", sliver(x, 7), "0");
    }

    private static void mostDraft() {
        Check.same("149 by 20", draftBy(20, 149), 7);
        Check.same("150 by 20", draftBy(20, 150), 8);
        Check.same("169 by 20", draftBy(20, 169), 8);
        Check.same("170 by 20", draftBy(20, 170), 8);
        Check.same("999 by 1", draftBy(1, 999), 8);
    }

    // ---- 4: the metres

    private static void metres() {
        Sentence.holds(STEP, "each has the weight of the feed divided by the draft", StepBoundaries::evenMetres);
        Sentence.holds(STEP, "the first ones, as many as the remainder tells, 1 more", StepBoundaries::heavierMetres);
        Sentence.holds(STEP, "They come to the back of the can that takes them, one after the other", StepBoundaries::comeToTheBack);
        Sentence.holds(STEP, "each metre with a weight above setting 4 laps", StepBoundaries::laps);
        Sentence.holds(STEP, "it is waste, and does not come to the can", StepBoundaries::wasteOfLaps);
    }

    private static String drawn(int draft, String feed) {
        DrawnSlivers x = drawnBy(draft, feed);
        x.run(1);
        return sliver(x, 7);
    }

    private static void evenMetres() {
        Check.same("40 by 8", drawn(8, "40"), "5,5,5,5,5,5,5,5");
        Check.same("0 by 8", drawn(8, "0"), "0,0,0,0,0,0,0,0");
        Check.same("41 by 1", drawn(1, "41"), "41");
    }

    private static void heavierMetres() {
        Check.same("41 by 8", drawn(8, "41"), "6,5,5,5,5,5,5,5");
        Check.same("47 by 8", drawn(8, "47"), "6,6,6,6,6,6,6,5");
        Check.same("48 by 8", drawn(8, "48"), "6,6,6,6,6,6,6,6");
        Check.same("1 by 8", drawn(8, "1"), "1,0,0,0,0,0,0,0");
        Check.same("7 by 8", drawn(8, "7"), "1,1,1,1,1,1,1,0");
        Check.same("5 by 2", drawn(2, "5"), "3,2");
    }

    private static void comeToTheBack() {
        DrawnSlivers x = drawnBy(3, "5,8");
        put(x, 7, "60,1");
        x.run(1);
        Check.same("behind what is there", sliver(x, 7), "60,1,2,2,1");
        x.run(1);
        Check.same("behind the step ahead", sliver(x, 7), "60,1,2,2,1,3,3,2");
        DrawnSlivers y = drawnBy(3, "5");
        put(y, 7, "9*37");
        y.run(1);
        Check.same("to the last places", y.metre(7, 36) + " " + y.metre(7, 37) + " " + y.metre(7, 39), "9 2 1");
    }

    private static void laps() {
        DrawnSlivers x = drawnBy(2, "120");
        x.run(1);
        Check.same("just setting 4 does not lap", sliver(x, 7) + " " + x.count(5), "60,60 0");
        DrawnSlivers y = drawnBy(2, "121");
        y.run(1);
        Check.same("1 more laps alone", sliver(y, 7) + " " + y.count(5), "60 1");
        DrawnSlivers z = drawnBy(8, "999");
        z.run(1);
        Check.same("all lap", z.can(7, 0) + " " + z.count(5), "0 8");
    }

    private static void wasteOfLaps() {
        DrawnSlivers x = drawnBy(4, "242,999");
        x.run(1);
        Check.same("two of four came", sliver(x, 7), "60,60");
        Check.same("two are waste", x.count(6), 122);
        Check.same("lapped ones did not come out", x.count(10), 2);
        x.clear();
        x.run(1);
        Check.same("four more are waste", x.count(6), 122 + 999);
        Check.same("told in two ways", x.count(8), x.count(9));
    }

    // ---- the stop

    private static void stops() {
        String stop = "The frame stops behind a step in which some metre laps";
        Sentence.holds(STEP, stop, StepBoundaries::stopsBehindTheStep);
        Sentence.holds(STEP, "until it is cleared, it does not run", StepBoundaries::staysStopped);
    }

    private static void stopsBehindTheStep() {
        DrawnSlivers x = drawnBy(2, "120,121,120");
        Check.same("the lapping step is done", x.run(40), 2);
        Check.same("its other metre came", sliver(x, 7), "60,60,60");
        Check.same("stopped", x.count(3), 1);
        Check.same("steps", x.count(0), 2);
        DrawnSlivers y = drawnBy(2, "120,120");
        y.run(40);
        Check.same("not stopped without a lap", y.count(3), 0);
    }

    private static void staysStopped() {
        DrawnSlivers x = drawnBy(1, "61,5");
        x.run(1);
        x.set(4, 999);
        x.out(6);
        x.feed(1);
        Check.same("no step", x.run(40), 0);
        Check.same("nothing taken", sliver(x, 0), "5");
        x.clear();
        Check.same("cleared", x.run(40), 1);
        Check.same("taken", sliver(x, 6), "5");
    }

    // ---- why a step can not be done

    private static void reasons() {
        Sentence.holds(STEP, "1: the frame is stopped by a lap", StepBoundaries::stoppedFirst);
        Sentence.holds(STEP, "2: no can is fed", StepBoundaries::noneFed);
        Sentence.holds(STEP, "3: the can that takes what comes out is fed itself", StepBoundaries::takerFed);
        Sentence.holds(STEP, "4: some can that is fed is empty", StepBoundaries::emptyFed);
        Sentence.holds(STEP, "5: the can that takes what comes out has no room for as many metres as the draft would be",
                StepBoundaries::noRoom);
        Sentence.holds(STEP, "(whether some of them would lap or not)", StepBoundaries::noRoomForLaps);
        Sentence.holds(STEP, "the first of these reasons that is so", StepBoundaries::firstReason);
    }

    private static void refusedFor(int reason, DrawnSlivers x) {
        String before = looks(x);
        Check.same("why", x.why(), reason);
        Check.same("run", x.run(40), 0);
        Check.same("nothing is changed", looks(x), before);
    }

    private static void stoppedFirst() {
        DrawnSlivers x = fed("999,20");
        x.run(1);
        refusedFor(1, x);
    }

    private static void noneFed() {
        DrawnSlivers x = new DrawnSlivers();
        refusedFor(2, x);
        put(x, 0, "20");
        refusedFor(2, x);
    }

    private static void takerFed() {
        DrawnSlivers x = new DrawnSlivers();
        for (int can = 0; can < 8; can++) {
            put(x, can, "20");
        }
        x.feed(128);
        refusedFor(3, x);
        x.feed(255);
        refusedFor(3, x);
        x.feed(1);
        x.out(0);
        refusedFor(3, x);
    }

    private static void emptyFed() {
        DrawnSlivers x = fed("20");
        x.feed(3);
        refusedFor(4, x);
        x.feed(64);
        refusedFor(4, x);
        x.feed(1);
        x.run(1);
        refusedFor(4, x);
    }

    private static void noRoom() {
        for (int draft = 1; draft <= 8; draft++) {
            DrawnSlivers x = drawnBy(draft, "20,20");
            put(x, 7, "1*" + (40 - draft));
            Check.same("just room for " + draft, x.why(), 0);
            Check.same("a step of " + draft, x.run(40), 1);
            Check.same("full by " + draft, x.can(7, 0), 40);
            DrawnSlivers y = drawnBy(draft, "20");
            put(y, 7, "1*" + (41 - draft));
            refusedFor(5, y);
        }
        DrawnSlivers z = fed("20,60");
        z.set(0, 1);
        put(z, 7, "1*36");
        Check.same("the draft without the feeler is 4", z.why(), 0);
        put(z, 7, "1");
        refusedFor(5, z);
        z.set(0, 0);
        Check.same("that by this feed is 1", z.why(), 0);
        z.run(1);
        Check.same("that by the next feed is 3", z.why(), 5);
        z.set(0, 1);
        Check.same("that by the feed ahead is 1", z.why(), 0);
    }

    private static void noRoomForLaps() {
        DrawnSlivers x = drawnBy(2, "999");
        put(x, 7, "1*39");
        refusedFor(5, x);
        DrawnSlivers y = drawnBy(2, "121");
        put(y, 7, "1*39");
        refusedFor(5, y);
        DrawnSlivers z = fed("999");
        put(z, 7, "1*33");
        refusedFor(5, z);
    }

    /** The frame is stopped, and the can 7 is full. */
    private static DrawnSlivers stoppedAndFull() {
        DrawnSlivers x = fed("999,20");
        x.run(1);
        put(x, 7, "1*40");
        return x;
    }

    private static void firstReason() {
        DrawnSlivers x = stoppedAndFull();
        refusedFor(1, x);
        x.feed(0);
        Check.same("1 ahead of 2", x.why(), 1);
        x.feed(128);
        Check.same("1 ahead of 3", x.why(), 1);
        x.feed(2);
        Check.same("1 ahead of 4", x.why(), 1);
        x.clear();
        Check.same("4 ahead of 5", x.why(), 4);
        x.feed(130);
        Check.same("3 ahead of 4 and 5", x.why(), 3);
        x.feed(128);
        Check.same("3 ahead of 5", x.why(), 3);
        x.feed(0);
        Check.same("2 ahead of 5", x.why(), 2);
        x.feed(1);
        Check.same("5 alone", x.why(), 5);
        x.tip(7);
        Check.same("none", x.why(), 0);
        x.feed(128);
        Check.same("3 ahead of 4", x.why(), 3);
    }

    // ---- what the feeler forgets

    private static void forgetting() {
        Sentence.holds(STEP, "The feeler forgets all, when other cans are fed than before", StepBoundaries::forgetsByFeed);
        Sentence.holds(STEP, "and by each call of clear()", StepBoundaries::forgetsByClear);
    }

    private static DrawnSlivers rememberingSeven() {
        DrawnSlivers x = fed("1,2,3,4,5,6,7,8,9");
        x.run(7);
        return x;
    }

    private static void forgetsByFeed() {
        DrawnSlivers x = rememberingSeven();
        Check.same("seven", feelerOf(x), "7,6,5,4,3,2,1");
        x.feed(1);
        Check.same("the same cans", feelerOf(x), "7,6,5,4,3,2,1");
        x.out(6);
        x.set(0, 3);
        x.tip(0);
        Check.same("nothing else", feelerOf(x), "7,6,5,4,3,2,1");
        x.feed(129);
        Check.same("one more", feelerOf(x), NOTHING);
        x.feed(1);
        Check.same("as before that", feelerOf(x), NOTHING);
        DrawnSlivers y = rememberingSeven();
        y.feed(0);
        Check.same("none", feelerOf(y), NOTHING);
        y.feed(1);
        y.run(1);
        Check.same("anew", feelerOf(y), "8,-1,-1,-1,-1,-1,-1");
        DrawnSlivers z = rememberingSeven();
        z.feed(2);
        Check.same("another one", feelerOf(z), NOTHING);
    }

    private static void forgetsByClear() {
        DrawnSlivers x = rememberingSeven();
        Check.same("not stopped", x.clear(), 0);
        Check.same("forgets all the same", feelerOf(x), NOTHING);
        DrawnSlivers y = fed("20,999");
        y.run(2);
        Check.same("stopped", y.clear(), 1);
        Check.same("forgets", feelerOf(y), NOTHING);
    }
}
