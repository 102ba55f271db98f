/** Boundary cases of the promises 1 to 8: a new object, the cans, the frame. */
final class CansBoundaries extends Slivers {
    static void all() {
        newObject();
        fill();
        tip();
        feed();
        out();
        run();
        clear();
        set();
    }

    private static void newObject() {
        String section = "Promise 1";
        Sentence.holds(section, "Creates empty cans", CansBoundaries::newCans);
        Sentence.holds(section, "a frame that is not stopped", CansBoundaries::newFrame);
        Sentence.holds(section, "with an empty buffer", CansBoundaries::newBuffer);
        Sentence.holds(section, "and no snapshot", CansBoundaries::newSnapshot);
    }

    private static void newCans() {
        DrawnSlivers other = busyWithAll();
        DrawnSlivers x = new DrawnSlivers();
        Check.same("all", looks(x), "0 0 7 0 0 0 0 0 0 0 0 0 4 20 1 60 [][][][][][][][]-1,-1,-1,-1,-1,-1,-1");
        Check.same("saved", x.count(11), 0);
        Check.badState("undo", x::undo);
        Check.same("the other is not new", other.count(0), 1);
    }

    private static DrawnSlivers busyWithAll() {
        DrawnSlivers x = fed("999,20");
        x.run(1);
        x.keep();
        type(x, "12");
        return x;
    }

    private static void newFrame() {
        busyWithAll();
        DrawnSlivers x = fed("20");
        Check.same("not stopped", x.count(3), 0);
        Check.same("it runs", x.run(40), 1);
    }

    private static void newBuffer() {
        busyWithAll();
        DrawnSlivers x = new DrawnSlivers();
        Check.same("firstError", x.firstError(), 0);
        Check.same("clearBuffer", x.clearBuffer(), 0);
        Check.same("append", x.append('1'), 1);
    }

    private static void newSnapshot() {
        busyWithAll();
        DrawnSlivers x = new DrawnSlivers();
        Check.badState("goBack", x::goBack);
        Check.same("nothing saved", x.count(11), 0);
    }

    // ---- fill

    private static void fill() {
        String section = "Promise 2";
        Sentence.holds(section, "Puts the sliver that the buffer tells to the back of that in a can", CansBoundaries::fillsToTheBack);
        Sentence.holds(section, "and clears the buffer", CansBoundaries::fillClears);
        Sentence.holds(section, "Undoable.", () -> TermsBoundaries.undoes("fill", TermsBoundaries.busy(), x -> x.fill(5)));
        Sentence.holds(section, "`can`: 0 to 7", CansBoundaries::fillsEachCan);
        Sentence.holds(section, "Returns how many metres the can has then.", CansBoundaries::metresThen);
        Sentence.holds(section, "Throws `IndexOutOfBoundsException` if there is no such can", CansBoundaries::fillsNoCan);
        Sentence.holds(section, "Throws `IllegalArgumentException` if the buffer is not a complete sliver as a text",
                CansBoundaries::fillsNoText);
        Sentence.holds(section, "Throws `IllegalStateException` if the can would have more than 40 metres", CansBoundaries::fillsTooMuch);
    }

    private static void fillsToTheBack() {
        DrawnSlivers x = new DrawnSlivers();
        put(x, 4, "7");
        Check.same("of an empty can", sliver(x, 4), "7");
        put(x, 4, "0,8*2");
        Check.same("of one with a metre", sliver(x, 4), "7,0,8,8");
        put(x, 4, "1*35,9");
        Check.same("to the 40th", x.metre(4, 38) + " " + x.metre(4, 39), "1 9");
        Check.same("the front stays", x.metre(4, 0), 7);
        put(x, 5, "3");
        Check.same("the next can has its own", sliver(x, 5), "3");
        Check.same("filled so far", x.count(7), 7 + 16 + 35 + 9 + 3);
    }

    private static void fillClears() {
        DrawnSlivers x = new DrawnSlivers();
        put(x, 0, "5*2");
        Check.same("firstError", x.firstError(), 0);
        Check.same("clearBuffer", x.clearBuffer(), 0);
        Check.same("append", x.append('6'), 1);
        Check.same("fill again", x.fill(0), 3);
        Check.same("by the new text alone", sliver(x, 0), "5,5,6");
        Check.badArgument("fill a third time", () -> x.fill(0));
    }

    private static void fillsEachCan() {
        DrawnSlivers x = new DrawnSlivers();
        Check.same("can 0", put(x, 0, "1"), 1);
        Check.same("can 7", put(x, 7, "2"), 1);
        Check.same("slivers", sliver(x, 0) + " " + sliver(x, 7), "1 2");
    }

    private static void metresThen() {
        DrawnSlivers x = new DrawnSlivers();
        Check.same("1", put(x, 3, "0"), 1);
        Check.same("39", put(x, 3, "0*38"), 39);
        Check.same("40", put(x, 3, "0"), 40);
    }

    private static void fillsNoCan() {
        DrawnSlivers x = typed("5");
        for (int wrong : NO_CANS) {
            Check.noCan("fill(" + wrong + ")", () -> x.fill(wrong));
        }
        Check.same("the text stays", x.clearBuffer(), 1);
    }

    private static void fillsNoText() {
        String[] wrong = {"", ",", "1,", "1*", "1*1", "1*3*", "00", "1000", "1*41", "x", "1x", "1,x", ",1", "1,,2", "1*2x"};
        for (String text : wrong) {
            DrawnSlivers x = typed(text);
            Check.badArgument("fill by '" + text + "'", () -> x.fill(0));
            Check.same("nothing came by '" + text + "'", x.can(0, 0), 0);
            Check.same("the text stays '" + text + "'", x.clearBuffer(), text.length());
        }
    }

    private static void fillsTooMuch() {
        DrawnSlivers x = new DrawnSlivers();
        put(x, 0, "1*38");
        type(x, "2*3");
        Check.badState("41", () -> x.fill(0));
        Check.same("the text stays", x.clearBuffer(), 3);
        Check.same("the can stays", x.can(0, 0), 38);
        Check.same("nothing is filled", x.count(7), 38);
        put(x, 0, "2*2");
        Check.same("40", x.can(0, 0), 40);
        type(x, "3");
        Check.badState("a full can", () -> x.fill(0));
        x.clearBuffer();
        type(x, "0*40,0");
        Check.badState("41 to an empty can", () -> x.fill(1));
        x.clearBuffer();
        Check.same("40 to an empty can", put(x, 1, "0*20,1*20"), 40);
        type(x, "0*40" + times(",0*40", 11));
        Check.badState("480 to an empty can", () -> x.fill(2));
    }

    // ---- tip

    private static void tip() {
        String section = "Promise 3";
        Sentence.holds(section, "Empties a can", CansBoundaries::tipEmpties);
        Sentence.holds(section, "what was in it is waste", CansBoundaries::tipWastes);
        Sentence.holds(section, "Undoable.", () -> TermsBoundaries.undoes("tip", TermsBoundaries.busy(), x -> x.tip(0)));
        Sentence.holds(section, "`can`: 0 to 7", CansBoundaries::tipsEachCan);
        Sentence.holds(section, "Returns how many metres were in it.", CansBoundaries::metresTipped);
        Sentence.holds(section, "Throws `IndexOutOfBoundsException` if there is no such can", CansBoundaries::tipsNoCan);
    }

    private static void tipEmpties() {
        DrawnSlivers x = new DrawnSlivers();
        put(x, 4, "5*40");
        put(x, 3, "6*40");
        put(x, 5, "7*40");
        x.tip(4);
        Check.same("a full one", x.can(4, 0), 0);
        Check.same("the others stay", x.can(3, 1) + x.can(5, 1), 240 + 280);
        x.tip(4);
        Check.same("an empty one", x.can(4, 0), 0);
        put(x, 4, "8");
        Check.same("filled anew", sliver(x, 4), "8");
    }

    private static void tipWastes() {
        DrawnSlivers x = new DrawnSlivers();
        put(x, 0, "999*40");
        x.tip(0);
        Check.same("all of it", x.count(6), 39960);
        x.tip(0);
        Check.same("nothing of an empty one", x.count(6), 39960);
        Check.same("none lapped", x.count(5), 0);
        Check.same("not stopped", x.count(3), 0);
        Check.same("nothing left", x.count(8) + x.count(9), 0);
    }

    private static void tipsEachCan() {
        DrawnSlivers x = new DrawnSlivers();
        put(x, 0, "1*2");
        put(x, 7, "2*3");
        Check.same("can 7", x.tip(7), 3);
        Check.same("can 0", x.tip(0), 2);
    }

    private static void metresTipped() {
        DrawnSlivers x = new DrawnSlivers();
        put(x, 2, "0*40");
        Check.same("40", x.tip(2), 40);
        Check.same("0", x.tip(2), 0);
        put(x, 2, "0");
        Check.same("1", x.tip(2), 1);
    }

    private static void tipsNoCan() {
        DrawnSlivers x = new DrawnSlivers();
        for (int wrong : NO_CANS) {
            Check.noCan("tip(" + wrong + ")", () -> x.tip(wrong));
        }
    }

    // ---- feed

    private static void feed() {
        String section = "Promise 4";
        Sentence.holds(section, "Changes which cans are fed.", CansBoundaries::feeds);
        Sentence.holds(section, "Undoable.", () -> TermsBoundaries.undoes("feed", TermsBoundaries.busy(), x -> x.feed(1)));
        Sentence.holds(section, "`cans`: 0 to 255, a mask", CansBoundaries::masks);
        Sentence.holds(section, "Returns the mask before.", CansBoundaries::maskBefore);
        Sentence.holds(section, "Throws `IllegalArgumentException` if cans is out of range", CansBoundaries::noMask);
    }

    private static void feeds() {
        DrawnSlivers x = new DrawnSlivers();
        put(x, 0, "20*2");
        put(x, 6, "30*2");
        x.feed(64);
        x.run(1);
        Check.same("can 6", x.can(0, 0) + " " + x.can(6, 0), "2 1");
        x.feed(1);
        x.run(1);
        Check.same("can 0", x.can(0, 0) + " " + x.can(6, 0), "1 1");
        x.feed(65);
        x.run(1);
        Check.same("both", x.can(0, 0) + " " + x.can(6, 0), "0 0");
    }

    private static void masks() {
        DrawnSlivers x = new DrawnSlivers();
        for (int mask : new int[] {255, 0, 1, 128, 127, 254}) {
            x.feed(mask);
            Check.same("count(1)", x.count(1), mask);
            for (int can = 0; can < 8; can++) {
                Check.same("can(" + can + ", 6)", x.can(can, 6), mask >> can & 1);
            }
        }
    }

    private static void maskBefore() {
        DrawnSlivers x = new DrawnSlivers();
        Check.same("none", x.feed(255), 0);
        Check.same("all", x.feed(255), 255);
        Check.same("all again", x.feed(0), 255);
        Check.same("none again", x.feed(3), 0);
    }

    private static void noMask() {
        DrawnSlivers x = fed("20,20");
        x.run(1);
        for (int wrong : new int[] {-1, 256, 257, LOW, HIGH}) {
            Check.badArgument("feed(" + wrong + ")", () -> x.feed(wrong));
        }
        Check.same("still fed", x.count(1), 1);
        Check.same("still remembered", x.feeler(0), 20);
    }

    // ---- out

    private static void out() {
        String section = "Promise 5";
        Sentence.holds(section, "Changes which can takes what comes out.", CansBoundaries::takes);
        Sentence.holds(section, "Undoable.", () -> TermsBoundaries.undoes("out", TermsBoundaries.busy(), x -> x.out(5)));
        Sentence.holds(section, "`can`: 0 to 7", CansBoundaries::takersAtTheirEdges);
        Sentence.holds(section, "Returns the can before.", CansBoundaries::takerBefore);
        Sentence.holds(section, "Throws `IndexOutOfBoundsException` if there is no such can", CansBoundaries::noTaker);
    }

    private static void takes() {
        DrawnSlivers x = drawnBy(1, "5,6,7");
        x.run(1);
        x.out(3);
        x.run(1);
        x.out(7);
        x.run(1);
        Check.same("by turns", sliver(x, 7) + " " + sliver(x, 3), "5,7 6");
    }

    private static void takersAtTheirEdges() {
        DrawnSlivers x = new DrawnSlivers();
        put(x, 3, "20*2");
        x.feed(8);
        x.out(0);
        Check.same("0", x.count(2), 0);
        x.run(1);
        x.out(7);
        Check.same("7", x.count(2), 7);
        x.run(1);
        Check.same("both took", sliver(x, 0) + " " + sliver(x, 7), "20 20");
    }

    private static void takerBefore() {
        DrawnSlivers x = new DrawnSlivers();
        Check.same("7 at first", x.out(0), 7);
        Check.same("0", x.out(0), 0);
        Check.same("0 again", x.out(6), 0);
        Check.same("6", x.out(7), 6);
    }

    private static void noTaker() {
        DrawnSlivers x = new DrawnSlivers();
        for (int wrong : NO_CANS) {
            Check.noCan("out(" + wrong + ")", () -> x.out(wrong));
        }
        Check.same("still 7", x.count(2), 7);
    }

    // ---- run

    private static void run() {
        String section = "Promise 6";
        Sentence.holds(section, "Lets the frame run, up to a number of steps", CansBoundaries::upToSteps);
        Sentence.holds(section, "it ends ahead of the first one that can not be done", CansBoundaries::runEnds);
        Sentence.holds(section, "Undoable, also if none is done.", CansBoundaries::runIsUndoable);
        Sentence.holds(section, "`steps`: 1 to 40", CansBoundaries::runLengths);
        Sentence.holds(section, "Returns how many steps are done.", CansBoundaries::stepsDone);
        Sentence.holds(section, "Throws `IllegalArgumentException` if steps is out of range", CansBoundaries::noRunLength);
    }

    private static void upToSteps() {
        DrawnSlivers x = fed("20*5");
        Check.same("2 of 5", x.run(2), 2);
        Check.same("3 are left", x.can(0, 0), 3);
        Check.same("3 of 3", x.run(3), 3);
        Check.same("none are left", x.can(0, 0), 0);
    }

    private static void runEnds() {
        DrawnSlivers x = fed("20*5");
        put(x, 1, "0*3");
        x.feed(3);
        Check.same("till one is empty", x.run(40), 3);
        Check.same("the other keeps the rest", x.can(0, 0), 2);
        DrawnSlivers y = drawnBy(3, "9*20");
        Check.same("till there is no room", y.run(40), 13);
        Check.same("39 metres", y.can(7, 0), 39);
        DrawnSlivers z = drawnBy(1, "60,61,60");
        Check.same("till a lap", z.run(40), 2);
    }

    private static void runIsUndoable() {
        TermsBoundaries.undoes("run", TermsBoundaries.busy(), x -> x.run(1));
        TermsBoundaries.undoes("run of many", TermsBoundaries.busy(), x -> x.run(40));
        TermsBoundaries.undoes("run of none", new DrawnSlivers(), x -> x.run(1));
        DrawnSlivers stopped = fed("999");
        stopped.run(1);
        TermsBoundaries.undoes("run of a stopped one", stopped, x -> x.run(40));
        TermsBoundaries.undoes("run to a lap", fed("20,999"), x -> x.run(40));
    }

    private static void runLengths() {
        DrawnSlivers x = fed("20*40");
        Check.same("1", x.run(1), 1);
        Check.same("39 are left", x.can(0, 0), 39);
        DrawnSlivers y = fed("20*40");
        Check.same("40", y.run(40), 40);
        Check.same("all came", y.can(7, 0), 40);
    }

    private static void stepsDone() {
        Check.same("none", new DrawnSlivers().run(40), 0);
        Check.same("one", fed("20").run(40), 1);
        Check.same("all", fed("20*40").run(40), 40);
        DrawnSlivers x = fed("20*9");
        x.run(4);
        Check.same("of this run alone", x.run(3), 3);
        Check.same("so far", x.count(0), 7);
    }

    private static void noRunLength() {
        DrawnSlivers x = fed("20*40");
        for (int wrong : new int[] {0, -1, 41, LOW, HIGH}) {
            Check.badArgument("run(" + wrong + ")", () -> x.run(wrong));
        }
        Check.same("none is done", x.count(0), 0);
    }

    // ---- clear

    private static void clear() {
        String section = "Promise 7";
        Sentence.holds(section, "Clears the frame: it is not stopped any more.", CansBoundaries::clears);
        Sentence.holds(section, "Undoable.", CansBoundaries::clearIsUndoable);
        Sentence.holds(section, "Returns 1 if it was stopped, otherwise 0.", CansBoundaries::wasStopped);
    }

    private static void clears() {
        DrawnSlivers x = fed("999,20");
        x.run(1);
        x.clear();
        Check.same("not stopped", x.count(3), 0);
        Check.same("why", x.why(), 0);
        Check.same("lapped so far stays", x.count(5), 8);
        Check.same("waste so far stays", x.count(6), 999);
        Check.same("steps so far stay", x.count(0), 1);
        Check.same("the latest draft stays", x.count(4), 8);
        Check.same("it runs", x.run(40), 1);
    }

    private static void clearIsUndoable() {
        DrawnSlivers stopped = fed("20,999");
        stopped.run(2);
        TermsBoundaries.undoes("clear", stopped, x -> x.clear());
        Check.same("stopped again", stopped.count(3), 1);
        Check.same("remembers again", feelerOf(stopped), "999,20,-1,-1,-1,-1,-1");
    }

    private static void wasStopped() {
        DrawnSlivers x = fed("999,20");
        Check.same("a new one", x.clear(), 0);
        x.run(1);
        Check.same("a stopped one", x.clear(), 1);
        Check.same("a cleared one", x.clear(), 0);
    }

    // ---- set

    private static void set() {
        String section = "Promise 8";
        Sentence.holds(section, "Changes a setting.", CansBoundaries::changesOne);
        Sentence.holds(section, "Undoable.", () -> TermsBoundaries.undoes("set", TermsBoundaries.busy(), x -> x.set(4, 999)));
        Sentence.holds(section, "`setting`: 0 to 4", CansBoundaries::settingsAtTheirEdges);
        Sentence.plain(section, "`value`: the new value");
        Sentence.holds(section, "Returns the previous value.", CansBoundaries::valueBefore);
        Sentence.holds(section, "Throws `IndexOutOfBoundsException` if there is no such setting", CansBoundaries::noSetting);
        Sentence.holds(section, "Throws `IllegalArgumentException` if value is out of range", CansBoundaries::noValue);
    }

    private static void changesOne() {
        int[] first = {0, 4, 20, 1, 60};
        int[] changed = {5, 7, 98, 0, 998};
        for (int setting = 0; setting < 5; setting++) {
            DrawnSlivers x = new DrawnSlivers();
            x.set(setting, changed[setting]);
            for (int other = 0; other < 5; other++) {
                Check.same("setting " + other, x.setting(other), other == setting ? changed[other] : first[other]);
            }
        }
    }

    private static void settingsAtTheirEdges() {
        DrawnSlivers x = new DrawnSlivers();
        Check.same("setting 0", x.set(0, 1), 0);
        Check.same("setting 4", x.set(4, 10), 60);
    }

    private static void valueBefore() {
        DrawnSlivers x = new DrawnSlivers();
        Check.same("at first", x.set(2, 99), 20);
        Check.same("the same", x.set(2, 99), 99);
        Check.same("then", x.set(2, 1), 99);
        Check.same("the least", x.set(2, 1), 1);
    }

    private static void noSetting() {
        DrawnSlivers x = new DrawnSlivers();
        for (int wrong : new int[] {-1, 5, 6, LOW, HIGH}) {
            Check.noCan("set(" + wrong + ", 1)", () -> x.set(wrong, 1));
        }
    }

    private static void noValue() {
        int[] least = {0, 1, 1, 0, 10};
        int[] most = {6, 8, 99, 1, 999};
        DrawnSlivers x = new DrawnSlivers();
        for (int s = 0; s < 5; s++) {
            int setting = s;
            int before = x.setting(s);
            for (int wrong : new int[] {least[s] - 1, most[s] + 1, -1, 1000, LOW, HIGH}) {
                Check.badArgument("set(" + s + ", " + wrong + ")", () -> x.set(setting, wrong));
            }
            Check.same("setting(" + s + ") stays", x.setting(s), before);
        }
    }
}
