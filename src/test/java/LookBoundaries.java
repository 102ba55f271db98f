/** Boundary cases of the promises 15 to 20: looks. */
final class LookBoundaries extends Slivers {
    static void all() {
        can();
        metre();
        feeler();
        count();
        setting();
        why();
    }

    private static void can() {
        String section = "Promise 15";
        Sentence.plain(section, "Tells something of a can.");
        Sentence.holds(section, "`can`: 0 to 7", LookBoundaries::cansAtTheirEdges);
        Sentence.holds(section, "0: its metres; 1: their weights together", LookBoundaries::metresAndWeights);
        Sentence.holds(section, "2: the least weight; 3: the greatest weight", LookBoundaries::leastAndGreatest);
        Sentence.holds(section, "4: the spread: the greatest weight less the least one", LookBoundaries::spreads);
        Sentence.holds(section, "over all metres behind the first one, of the difference to the metre ahead of it, without its sign",
                LookBoundaries::stepsOfCans);
        Sentence.holds(section, "6: 1 if it is fed, otherwise 0", LookBoundaries::fedOrNot);
        Sentence.holds(section, "7: the weight of its front metre", LookBoundaries::fronts);
        Sentence.holds(section, "for 2, 3 and 7 NONE, and for 4 and 5 0, if it is empty", LookBoundaries::emptyCans);
        Sentence.holds(section, "Throws `IndexOutOfBoundsException` if there is no such can", LookBoundaries::noCan);
        Sentence.holds(section, "Throws `IllegalArgumentException` if what is not 0 to 7", LookBoundaries::noNumberOfACan);
    }

    private static void cansAtTheirEdges() {
        DrawnSlivers x = new DrawnSlivers();
        put(x, 0, "1,3");
        put(x, 7, "2,9");
        for (int what = 0; what < 8; what++) {
            Check.same("can(0, " + what + ")", x.can(0, what), new int[] {2, 4, 1, 3, 2, 2, 0, 1}[what]);
            Check.same("can(7, " + what + ")", x.can(7, what), new int[] {2, 11, 2, 9, 7, 7, 0, 2}[what]);
        }
    }

    private static DrawnSlivers heaviest() {
        DrawnSlivers x = new DrawnSlivers();
        put(x, 0, "999*40");
        put(x, 1, "0*40");
        put(x, 2, "999,0,999");
        put(x, 3, "7");
        return x;
    }

    private static void metresAndWeights() {
        DrawnSlivers x = heaviest();
        Check.same("full", x.can(0, 0) + " " + x.can(0, 1), "40 39960");
        Check.same("of 0", x.can(1, 0) + " " + x.can(1, 1), "40 0");
        Check.same("one", x.can(3, 0) + " " + x.can(3, 1), "1 7");
        Check.same("empty", x.can(4, 0) + " " + x.can(4, 1), "0 0");
    }

    private static void leastAndGreatest() {
        DrawnSlivers x = heaviest();
        Check.same("full", x.can(0, 2) + " " + x.can(0, 3), "999 999");
        Check.same("of 0", x.can(1, 2) + " " + x.can(1, 3), "0 0");
        Check.same("in the middle", x.can(2, 2) + " " + x.can(2, 3), "0 999");
        Check.same("one", x.can(3, 2) + " " + x.can(3, 3), "7 7");
        put(x, 5, "5*39,4");
        put(x, 6, "5*39,6");
        Check.same("the least is the 40th", x.can(5, 2) + " " + x.can(5, 3), "4 5");
        Check.same("the greatest is the 40th", x.can(6, 2) + " " + x.can(6, 3), "5 6");
        put(x, 7, "4,5*38,6");
        x.tip(4);
        put(x, 4, "6,5*38,4");
        Check.same("the least is the first", x.can(7, 2) + " " + x.can(7, 3), "4 6");
        Check.same("the greatest is the first", x.can(4, 2) + " " + x.can(4, 3), "4 6");
    }

    private static void spreads() {
        DrawnSlivers x = heaviest();
        Check.same("of equal ones", x.can(0, 4), 0);
        Check.same("the greatest spread", x.can(2, 4), 999);
        Check.same("of one", x.can(3, 4), 0);
        put(x, 5, "5*39,4");
        Check.same("by the 40th", x.can(5, 4), 1);
    }

    private static void stepsOfCans() {
        DrawnSlivers x = heaviest();
        Check.same("of equal ones", x.can(0, 5), 0);
        Check.same("down and up", x.can(2, 5), 1998);
        Check.same("of one", x.can(3, 5), 0);
        put(x, 5, "5*39,4");
        Check.same("by the 40th", x.can(5, 5), 1);
        put(x, 6, "9,5*39");
        Check.same("by the first", x.can(6, 5), 4);
        put(x, 7, "2,3,1,1,4");
        Check.same("all", x.can(7, 5), 1 + 2 + 0 + 3);
    }

    private static void fedOrNot() {
        DrawnSlivers x = new DrawnSlivers();
        Check.same("none at first", x.can(0, 6) + x.can(7, 6), 0);
        x.feed(128);
        Check.same("7, though empty", x.can(0, 6) + " " + x.can(7, 6), "0 1");
        x.feed(1);
        Check.same("0", x.can(0, 6) + " " + x.can(7, 6), "1 0");
    }

    private static void fronts() {
        DrawnSlivers x = heaviest();
        Check.same("999", x.can(2, 7), 999);
        Check.same("0", x.can(1, 7), 0);
        x.feed(4);
        x.set(4, 999);
        x.run(1);
        Check.same("behind a step", x.can(2, 7), 0);
    }

    private static void emptyCans() {
        DrawnSlivers x = new DrawnSlivers();
        put(x, 7, "9*40");
        x.tip(7);
        int[] due = {0, 0, -1, -1, 0, 0, 0, -1};
        for (int what = 0; what < 8; what++) {
            Check.same("new can(0, " + what + ")", x.can(0, what), due[what]);
            Check.same("tipped can(7, " + what + ")", x.can(7, what), due[what]);
        }
    }

    private static void noCan() {
        DrawnSlivers x = heaviest();
        for (int wrong : NO_CANS) {
            for (int what = 0; what < 8; what++) {
                int number = what;
                Check.noCan("can(" + wrong + ", " + what + ")", () -> x.can(wrong, number));
            }
        }
    }

    private static void noNumberOfACan() {
        DrawnSlivers x = heaviest();
        for (int wrong : new int[] {-1, 8, LOW, HIGH}) {
            Check.badArgument("can(0, " + wrong + ")", () -> x.can(0, wrong));
            Check.badArgument("can(7, " + wrong + ")", () -> x.can(7, wrong));
        }
    }

    // ---- metre

    private static void metre() {
        String section = "Promise 16";
        Sentence.plain(section, "Tells the weight of a metre.");
        Sentence.holds(section, "`can`: 0 to 7", LookBoundaries::metresOfEdgeCans);
        Sentence.holds(section, "`metre`: 0 for the front one", LookBoundaries::frontMetre);
        Sentence.holds(section, "Returns its weight; NONE if there are not so many.", LookBoundaries::notSoMany);
        Sentence.holds(section, "Throws `IndexOutOfBoundsException` if there is no such can", LookBoundaries::metreOfNoCan);
        Sentence.holds(section, "Throws `IllegalArgumentException` if metre is below 0", LookBoundaries::metreBelow);
    }

    private static void metresOfEdgeCans() {
        DrawnSlivers x = new DrawnSlivers();
        put(x, 0, "5");
        put(x, 7, "6");
        Check.same("can 0", x.metre(0, 0), 5);
        Check.same("can 7", x.metre(7, 0), 6);
    }

    private static void frontMetre() {
        DrawnSlivers x = fed("8,9");
        Check.same("8", x.metre(0, 0), 8);
        x.run(1);
        Check.same("then 9", x.metre(0, 0), 9);
    }

    private static void notSoMany() {
        DrawnSlivers x = heaviest();
        Check.same("the 40th of 40", x.metre(0, 39), 999);
        Check.same("the 41st of 40", x.metre(0, 40), -1);
        Check.same("a weight of 0", x.metre(1, 39), 0);
        Check.same("the 3rd of 3", x.metre(2, 2), 999);
        Check.same("the 4th of 3", x.metre(2, 3), -1);
        Check.same("the front of none", x.metre(4, 0), -1);
        Check.same("far behind", x.metre(0, HIGH), -1);
        Check.same("far behind in the last can", x.metre(7, HIGH - 280), -1);
        x.tip(0);
        Check.same("of a tipped one", x.metre(0, 0), -1);
    }

    private static void metreOfNoCan() {
        DrawnSlivers x = heaviest();
        for (int wrong : NO_CANS) {
            Check.noCan("metre(" + wrong + ", 0)", () -> x.metre(wrong, 0));
        }
    }

    private static void metreBelow() {
        DrawnSlivers x = heaviest();
        for (int wrong : new int[] {-1, -40, LOW}) {
            Check.badArgument("metre(1, " + wrong + ")", () -> x.metre(1, wrong));
            Check.badArgument("metre of an empty can " + wrong, () -> x.metre(7, wrong));
        }
    }

    // ---- feeler

    private static void feeler() {
        String section = "Promise 17";
        Sentence.plain(section, "Tells what the feeler remembers.");
        Sentence.holds(section, "`ago`: 0 for the feed of the latest step, 1 for that ahead of it, and so on, up to 6",
                LookBoundaries::agoAtItsEdges);
        Sentence.holds(section, "Returns the feed; NONE if it does not remember it.", LookBoundaries::notRemembered);
        Sentence.holds(section, "Throws `IllegalArgumentException` if ago is not 0 to 6", LookBoundaries::noAgo);
    }

    private static void agoAtItsEdges() {
        DrawnSlivers x = fed("1,2,3,4,5,6,7,8,9,10,11,12,13,14,15,16,17");
        x.run(7);
        Check.same("0 and 6", x.feeler(0) + " " + x.feeler(6), "7 1");
        x.run(1);
        Check.same("the eighth", feelerOf(x), "8,7,6,5,4,3,2");
        x.run(9);
        Check.same("the 17th", feelerOf(x), "17,16,15,14,13,12,11");
    }

    private static void notRemembered() {
        DrawnSlivers x = fed("0*9");
        for (int steps = 0; steps <= 7; steps++) {
            for (int ago = 0; ago <= 6; ago++) {
                Check.same("feeler(" + ago + ") behind " + steps, x.feeler(ago), ago < steps ? 0 : -1);
            }
            x.run(1);
        }
        x.clear();
        Check.same("forgotten", feelerOf(x), "-1,-1,-1,-1,-1,-1,-1");
    }

    private static void noAgo() {
        DrawnSlivers x = fed("5*9");
        x.run(9);
        for (int wrong : new int[] {-1, 7, 8, LOW, HIGH}) {
            Check.badArgument("feeler(" + wrong + ")", () -> x.feeler(wrong));
        }
    }

    // ---- count

    private static void count() {
        String section = "Promise 18";
        Sentence.plain(section, "Returns a number.");
        Sentence.plain(section, "Returns the number.");
        Sentence.holds(section, "0: steps done so far", LookBoundaries::countsSteps);
        Sentence.holds(section, "1: the cans that are fed, as a mask", LookBoundaries::countsMask);
        Sentence.holds(section, "2: the can that takes what comes out", LookBoundaries::countsTaker);
        Sentence.holds(section, "3: 1 if the frame is stopped by a lap, otherwise 0", LookBoundaries::countsStop);
        Sentence.holds(section, "4: the draft of the latest step, 0 without one", LookBoundaries::countsDraft);
        Sentence.holds(section, "5: metres that lapped so far", LookBoundaries::countsLapped);
        Sentence.holds(section, "6: the weight of all waste so far", LookBoundaries::countsWaste);
        Sentence.holds(section, "7: the weight that was filled into cans so far", LookBoundaries::countsFilled);
        Sentence.holds(section, "8: the weight in all cans, told metre by metre", LookBoundaries::countsWeight);
        Sentence.holds(section, "9: the weight in all cans, told as what was filled less the waste", LookBoundaries::countsWeight);
        Sentence.holds(section, "10: metres that came out so far, lapped ones not counted", LookBoundaries::countsCameOut);
        Sentence.holds(section, "11: saved states", LookBoundaries::countsStates);
        Sentence.holds(section, "Throws `IllegalArgumentException` if what is not 0 to 11", LookBoundaries::noCount);
    }

    private static void countsSteps() {
        DrawnSlivers x = fed("20*2,999,20");
        Check.same("none", x.count(0), 0);
        x.run(40);
        Check.same("also the one that lapped", x.count(0), 3);
        x.run(40);
        Check.same("not one that is not done", x.count(0), 3);
        x.clear();
        x.run(40);
        Check.same("clear lets them stand", x.count(0), 4);
    }

    private static void countsMask() {
        DrawnSlivers x = new DrawnSlivers();
        Check.same("none", x.count(1), 0);
        x.feed(255);
        Check.same("all", x.count(1), 255);
    }

    private static void countsTaker() {
        DrawnSlivers x = new DrawnSlivers();
        Check.same("7 at first", x.count(2), 7);
        x.out(0);
        Check.same("0", x.count(2), 0);
    }

    private static void countsStop() {
        DrawnSlivers x = fed("999,20");
        Check.same("at first", x.count(3), 0);
        x.run(1);
        Check.same("by a lap", x.count(3), 1);
        x.clear();
        Check.same("cleared", x.count(3), 0);
        x.run(40);
        Check.same("at the end of a can", x.count(3), 0);
    }

    private static void countsDraft() {
        DrawnSlivers x = fed("160,20");
        Check.same("without a step", x.count(4), 0);
        x.run(1);
        Check.same("8", x.count(4), 8);
        x.run(1);
        Check.same("1", x.count(4), 1);
        x.run(1);
        x.set(1, 5);
        Check.same("1 still", x.count(4), 1);
        x.undo();
        x.undo();
        x.undo();
        Check.same("8 again", x.count(4), 8);
        x.undo();
        Check.same("without a step again", x.count(4), 0);
        DrawnSlivers y = new DrawnSlivers();
        y.run(40);
        Check.same("a run of none", y.count(4), 0);
    }

    private static void countsLapped() {
        DrawnSlivers x = drawnBy(2, "120,121,122");
        x.run(1);
        Check.same("none", x.count(5), 0);
        x.run(1);
        Check.same("one", x.count(5), 1);
        x.clear();
        x.run(1);
        Check.same("two more", x.count(5), 3);
        x.tip(7);
        Check.same("tipped ones did not lap", x.count(5), 3);
    }

    private static void countsWaste() {
        DrawnSlivers x = drawnBy(2, "121");
        Check.same("none", x.count(6), 0);
        x.run(1);
        Check.same("lapped", x.count(6), 61);
        x.tip(7);
        Check.same("and tipped", x.count(6), 121);
        x.undo();
        x.undo();
        Check.same("undone", x.count(6), 0);
    }

    private static void countsFilled() {
        DrawnSlivers x = new DrawnSlivers();
        Check.same("none", x.count(7), 0);
        put(x, 0, "0*40");
        Check.same("weights of 0", x.count(7), 0);
        put(x, 7, "999*40");
        Check.same("the heaviest", x.count(7), 39960);
        x.tip(7);
        Check.same("tipping takes nothing off", x.count(7), 39960);
        put(x, 7, "1");
        Check.same("all so far", x.count(7), 39961);
        x.undo();
        Check.same("undone", x.count(7), 39960);
    }

    private static void sameWeight(String what, DrawnSlivers x, int due) {
        Check.same(what + ", count(8)", x.count(8), due);
        Check.same(what + ", count(9)", x.count(9), due);
    }

    private static void countsWeight() {
        DrawnSlivers x = new DrawnSlivers();
        sameWeight("empty", x, 0);
        for (int can = 0; can < 8; can++) {
            put(x, can, "999*40");
        }
        sameWeight("full", x, 8 * 39960);
        x.tip(7);
        x.feed(127);
        x.set(4, 875);
        sameWeight("tipped", x, 7 * 39960);
        Check.same("steps", x.run(40), 5);
        sameWeight("behind a run", x, 7 * 39960);
        x.tip(7);
        x.set(4, 874);
        x.run(40);
        sameWeight("behind a lap", x, 7 * 39960 - 5 * 6993 - 875);
        for (int can = 0; can < 8; can++) {
            x.tip(can);
        }
        sameWeight("all tipped", x, 0);
    }

    private static void countsCameOut() {
        DrawnSlivers x = drawnBy(2, "120,121,122");
        Check.same("none", x.count(10), 0);
        put(x, 7, "5*2");
        Check.same("filled ones did not come out", x.count(10), 0);
        x.run(40);
        Check.same("one of four lapped", x.count(10), 3);
        x.tip(7);
        Check.same("tipping takes nothing off", x.count(10), 3);
        x.clear();
        x.run(40);
        Check.same("both lapped", x.count(10), 3);
    }

    private static void countsStates() {
        DrawnSlivers x = new DrawnSlivers();
        Check.same("none", x.count(11), 0);
        for (int call = 1; call <= 8; call++) {
            x.clear();
            Check.same("behind " + call, x.count(11), Math.min(call, 6));
        }
        x.undo();
        Check.same("one less", x.count(11), 5);
    }

    private static void noCount() {
        DrawnSlivers x = new DrawnSlivers();
        for (int wrong : new int[] {-1, 12, 13, LOW, HIGH}) {
            Check.badArgument("count(" + wrong + ")", () -> x.count(wrong));
        }
    }

    // ---- setting

    private static void setting() {
        String section = "Promise 19";
        Sentence.plain(section, "Returns a setting.");
        Sentence.holds(section, "`setting`: 0 to 4", LookBoundaries::settingsAtTheirEdges);
        Sentence.holds(section, "Returns its value.", LookBoundaries::values);
        Sentence.holds(section, "Throws `IndexOutOfBoundsException` if there is no such setting", LookBoundaries::noSetting);
    }

    private static void settingsAtTheirEdges() {
        DrawnSlivers x = new DrawnSlivers();
        Check.same("0", x.setting(0), 0);
        Check.same("4", x.setting(4), 60);
    }

    private static void values() {
        DrawnSlivers x = new DrawnSlivers();
        x.set(0, 6);
        x.set(1, 8);
        x.set(2, 99);
        x.set(3, 0);
        x.set(4, 999);
        int[] due = {6, 8, 99, 0, 999};
        int[] first = {0, 4, 20, 1, 60};
        for (int setting = 0; setting < 5; setting++) {
            Check.same("setting(" + setting + ")", x.setting(setting), due[setting]);
        }
        for (int back = 0; back < 5; back++) {
            x.undo();
        }
        for (int setting = 0; setting < 5; setting++) {
            Check.same("undone setting(" + setting + ")", x.setting(setting), first[setting]);
        }
    }

    private static void noSetting() {
        DrawnSlivers x = new DrawnSlivers();
        for (int wrong : new int[] {-1, 5, 6, LOW, HIGH}) {
            Check.noCan("setting(" + wrong + ")", () -> x.setting(wrong));
        }
    }

    // ---- why

    private static void why() {
        String section = "Promise 20";
        Sentence.holds(section, "Tells why a step can not be done.", LookBoundaries::toldAsRunIs);
        Sentence.holds(section, "Returns 0 if it can be, otherwise 1 to 5.", LookBoundaries::eachReason);
    }

    private static void toldAsRunIs() {
        DrawnSlivers x = fed("20,60,999,20*9");
        put(x, 7, "1*25");
        for (int step = 0; step < 14; step++) {
            int why = x.why();
            Check.same("run behind why " + why, x.run(1), why == 0 ? 1 : 0);
            if (why == 1) {
                x.clear();
            }
        }
        Check.same("nothing left to feed", x.why(), 4);
    }

    private static void eachReason() {
        DrawnSlivers x = new DrawnSlivers();
        Check.same("2", x.why(), 2);
        x.feed(128);
        Check.same("3", x.why(), 3);
        x.feed(1);
        Check.same("4", x.why(), 4);
        put(x, 0, "999,20");
        Check.same("0", x.why(), 0);
        put(x, 7, "1*33");
        Check.same("5", x.why(), 5);
        x.tip(7);
        put(x, 7, "1*32");
        Check.same("0 again", x.why(), 0);
        x.run(1);
        Check.same("1", x.why(), 1);
    }
}
