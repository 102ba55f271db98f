/** Boundary cases of the document's beginning, and of "Terms" but for "A step". */
final class TermsBoundaries extends Slivers {
    private static final String ALL_CALLS = "An object is used for at most 512 calls after it has been made";
    private static final String CHANGES_NOTHING = "A call that throws an exception changes nothing.";
    private static final String FIRST_NAMED = "If several exceptions apply, the one that is named first in the throws clause is thrown.";

    static void all() {
        Sentence.plain("What it is", "A draw frame that evens slivers");
        Sentence.holds("What it is", ALL_CALLS, TermsBoundaries::manyStates);
        Sentence.holds("What it is", ALL_CALLS, TermsBoundaries::manyTexts);
        Sentence.holds("What it is", ALL_CALLS, TermsBoundaries::manyRuns);
        Sentence.holds("Terms", "divisions are rounded down, if nothing else is told", TermsBoundaries::roundedDown);
        cans();
        settings();
        texts();
        saving();
        exceptions();
    }

    private static void manyStates() {
        DrawnSlivers x = new DrawnSlivers();
        int before = 20;
        for (int call = 1; call <= 505; call++) {
            int value = 1 + call % 99;
            Check.same("set as call " + call, x.set(2, value), before);
            before = value;
        }
        for (int left = 5; left >= 0; left--) {
            Check.same("undo of late states", x.undo(), left);
        }
        Check.same("setting(2) as call 512", x.setting(2), 1 + 499 % 99);
    }

    private static void manyTexts() {
        DrawnSlivers x = new DrawnSlivers();
        for (int round = 0; round < 8; round++) {
            for (int length = 1; length <= 60; length++) {
                Check.same("append in round " + round, x.append(126), length);
            }
            Check.same("clearBuffer in round " + round, x.clearBuffer(), 60);
        }
        Check.same("fill behind all", put(x, 0, "5*40"), 40);
    }

    private static void manyRuns() {
        DrawnSlivers x = new DrawnSlivers();
        x.set(3, 0);
        x.set(1, 1);
        x.feed(1);
        for (int round = 0; round < 70; round++) {
            put(x, 0, "9*40");
            Check.same("run in round " + round, x.run(40), 40);
            Check.same("tip in round " + round, x.tip(7), 40);
        }
        Check.same("steps", x.count(0), 70 * 40);
        Check.same("waste", x.count(6), 70 * 360);
        Check.same("filled", x.count(7), 70 * 360);
        Check.same("came out", x.count(10), 70 * 40);
    }

    private static void roundedDown() {
        DrawnSlivers x = drawnBy(4, "7");
        x.run(1);
        Check.same("7 by 4", sliver(x, 7), "2,2,2,1");
    }

    // ---- Cans, slivers

    private static void cans() {
        Sentence.plain("Terms", "Cans, slivers");
        Sentence.holds("Terms", "There are 8 cans, numbered from 0.", TermsBoundaries::eightCans);
        Sentence.holds("Terms", "In a can is a sliver of at most 40 metres", TermsBoundaries::fullByFill);
        Sentence.holds("Terms", "In a can is a sliver of at most 40 metres", TermsBoundaries::fullByRun);
        Sentence.holds("Terms", "each metre has a weight, 0 to 999", TermsBoundaries::weights);
        Sentence.holds("Terms", "Metres are taken from the front of a sliver, and come to its back.", TermsBoundaries::frontAndBack);
        Sentence.holds("Terms", "At first all cans are empty.", TermsBoundaries::emptyAtFirst);
    }

    private static void eightCans() {
        DrawnSlivers x = new DrawnSlivers();
        for (int can = 0; can < 8; can++) {
            put(x, can, "1*" + (can + 2));
        }
        for (int can = 0; can < 8; can++) {
            Check.same("each has its own sliver " + can, x.can(can, 0), can + 2);
        }
        type(x, "5");
        for (int wrong : NO_CANS) {
            Check.noCan("fill(" + wrong + ")", () -> x.fill(wrong));
            Check.noCan("tip(" + wrong + ")", () -> x.tip(wrong));
            Check.noCan("out(" + wrong + ")", () -> x.out(wrong));
            Check.noCan("can(" + wrong + ", 0)", () -> x.can(wrong, 0));
            Check.noCan("metre(" + wrong + ", 0)", () -> x.metre(wrong, 0));
            Check.noCan("mean(" + wrong + ")", () -> (long) x.mean(wrong));
        }
    }

    private static void fullByFill() {
        for (int can = 0; can < 8; can++) {
            DrawnSlivers x = new DrawnSlivers();
            int full = can;
            Check.same("40 in the can " + can, put(x, full, "3*40"), 40);
            type(x, "4");
            Check.badState("41 in the can " + can, () -> x.fill(full));
            Check.same("no more in the can " + can, x.can(full, 0), 40);
            Check.same("its last one " + can, x.metre(full, 39), 3);
        }
    }

    private static void fullByRun() {
        DrawnSlivers x = drawnBy(8, "8*6");
        Check.same("five steps of 8", x.run(40), 5);
        Check.same("40 came", x.can(7, 0), 40);
        DrawnSlivers y = drawnBy(7, "7*7");
        Check.same("five steps of 7", y.run(40), 5);
        Check.same("35 came", y.can(7, 0), 35);
    }

    private static void weights() {
        DrawnSlivers x = new DrawnSlivers();
        put(x, 0, "0,999");
        Check.same("the least weight", x.metre(0, 0), 0);
        Check.same("the greatest weight", x.metre(0, 1), 999);
        type(x, "1000");
        Check.badArgument("one more", () -> x.fill(0));
        DrawnSlivers y = drawnBy(1, "999,999,0");
        put(y, 1, "0,1,0");
        y.feed(3);
        y.set(4, 999);
        y.run(9);
        Check.same("999 comes, 1000 does not", sliver(y, 7), "999");
        y.clear();
        y.run(9);
        Check.same("0 comes", sliver(y, 7), "999,0");
    }

    private static void frontAndBack() {
        DrawnSlivers x = drawnBy(1, "1,2,3");
        x.run(1);
        Check.same("one taken", sliver(x, 0) + " " + sliver(x, 7), "2,3 1");
        x.run(1);
        Check.same("two taken", sliver(x, 0) + " " + sliver(x, 7), "3 1,2");
        x.run(1);
        Check.same("the last one taken", sliver(x, 0) + " " + sliver(x, 7), " 1,2,3");
        put(x, 7, "4");
        Check.same("what is filled comes to the back", sliver(x, 7), "1,2,3,4");
        DrawnSlivers y = drawnBy(1, "5,6*38,7");
        put(y, 1, "8,9*38,10");
        y.run(1);
        Check.same("taken from a full one", y.metre(0, 0) + " " + y.metre(0, 38) + " " + y.metre(0, 39), "6 7 -1");
        Check.same("its neighbour stays", y.metre(1, 0) + " " + y.metre(1, 39), "8 10");
    }

    private static void emptyAtFirst() {
        DrawnSlivers x = new DrawnSlivers();
        for (int can = 0; can < 8; can++) {
            Check.same("metres of the can " + can, x.can(can, 0), 0);
            Check.same("front of the can " + can, x.metre(can, 0), -1);
        }
    }

    // ---- Settings

    private static void settings() {
        Sentence.holds("Settings", "0: the lag of the feeler, 0 to 6, at first 0", () -> range(0, 0, 6, 0));
        Sentence.holds("Settings", "1: the draft without it, 1 to 8, at first 4", () -> range(1, 1, 8, 4));
        Sentence.holds("Settings", "2: the weight that a metre should have, 1 to 99, at first 20", () -> range(2, 1, 99, 20));
        Sentence.holds("Settings", "3: 1 if the feeler evens, 0 if not, at first 1", () -> range(3, 0, 1, 1));
        Sentence.holds("Settings", "4: the weight above which a metre laps, 10 to 999, at first 60", () -> range(4, 10, 999, 60));
        Sentence.holds("Settings", "the lag of the feeler, 0 to 6", TermsBoundaries::lagsAtTheirEdges);
        Sentence.holds("Settings", "the draft without it, 1 to 8", TermsBoundaries::draftsAtTheirEdges);
        Sentence.holds("Settings", "the weight that a metre should have, 1 to 99", TermsBoundaries::wantedAtItsEdges);
        Sentence.holds("Settings", "1 if the feeler evens, 0 if not", TermsBoundaries::evensOrNot);
        Sentence.holds("Settings", "the weight above which a metre laps, 10 to 999", TermsBoundaries::lapsAtTheirEdges);
    }

    private static void range(int setting, int least, int most, int first) {
        DrawnSlivers x = new DrawnSlivers();
        Check.same("at first", x.setting(setting), first);
        Check.same("set the least", x.set(setting, least), first);
        Check.same("the least", x.setting(setting), least);
        Check.same("set the most", x.set(setting, most), least);
        Check.same("the most", x.setting(setting), most);
        for (int wrong : new int[] {least - 1, most + 1, LOW, HIGH}) {
            Check.badArgument("set to " + wrong, () -> x.set(setting, wrong));
        }
        Check.same("it stays", x.setting(setting), most);
    }

    private static void lagsAtTheirEdges() {
        DrawnSlivers x = fed("20,40,60,80,100,120,140,160");
        x.set(4, 999);
        Check.same("lag 0", x.run(1) + x.count(4), 1 + 1);
        x.set(0, 6);
        x.set(1, 2);
        x.run(5);
        Check.same("nothing told in the sixth step", x.count(4), 2);
        x.run(1);
        Check.same("the first feed told in the seventh step", x.count(4), 1);
        x.run(1);
        Check.same("the second feed told in the eighth step", x.count(4), 2);
    }

    private static void draftsAtTheirEdges() {
        DrawnSlivers x = drawnBy(1, "9*2");
        x.run(1);
        Check.same("draft 1", sliver(x, 7), "9");
        x.set(1, 8);
        x.run(1);
        Check.same("draft 8", sliver(x, 7), "9,2,1,1,1,1,1,1,1");
    }

    private static void wantedAtItsEdges() {
        DrawnSlivers x = fed("3,148,149");
        x.set(4, 999);
        x.set(2, 1);
        x.run(1);
        Check.same("3 by 1", x.count(4), 3);
        x.set(2, 99);
        x.run(1);
        Check.same("148 by 99", x.count(4), 1);
        x.run(1);
        Check.same("149 by 99", x.count(4), 2);
    }

    private static void evensOrNot() {
        DrawnSlivers x = fed("60,60,60");
        x.run(1);
        Check.same("at first it evens", x.count(4), 3);
        x.set(3, 0);
        x.run(1);
        Check.same("it does not", x.count(4), 4);
        x.set(3, 1);
        x.run(1);
        Check.same("it does again", x.count(4), 3);
    }

    private static void lapsAtTheirEdges() {
        DrawnSlivers x = drawnBy(1, "60,10,11,999,999");
        put(x, 1, "0*4,1");
        x.feed(3);
        x.run(1);
        Check.same("60 does not lap at first", x.count(3), 0);
        x.set(4, 10);
        x.run(1);
        Check.same("10 does not lap by 10", x.count(3), 0);
        x.run(1);
        Check.same("11 laps by 10", x.count(3), 1);
        x.clear();
        x.set(4, 999);
        x.run(1);
        Check.same("999 does not lap by 999", x.count(3), 0);
        x.run(1);
        Check.same("1000 laps by 999", x.count(3), 1);
    }

    // ---- Input text

    private static void texts() {
        Sentence.holds("Input text", "The buffer has at most 60 characters.", TermsBoundaries::fullBuffer);
        Sentence.holds("Input text", "one or more parts", TermsBoundaries::parts);
        Sentence.holds("Input text", "with \",\" between them", TermsBoundaries::commas);
        Sentence.holds("Input text", "each a weight, 0 to 999", TermsBoundaries::weightsOfTexts);
        Sentence.holds("Input text", "and perhaps \"*\" and how many metres have it", TermsBoundaries::stars);
        Sentence.holds("Input text", "how many metres have it, 2 to 40", TermsBoundaries::timesOfTexts);
        Sentence.holds("Input text", "Numbers have no leading zeros.", TermsBoundaries::zeros);
        Sentence.holds("Input text", "The buffer is read from left to right", TermsBoundaries::leftToRight);
        Sentence.holds("Input text", "a character is a syntax error if no sliver as a text, of any length, begins with the characters "
                + "before it and this character", TermsBoundaries::beginnings);
    }

    /** What firstError and a fill of an empty can answer. */
    private static void reads(String text, int error, String filled) {
        DrawnSlivers x = typed(text);
        Check.same("firstError of " + text, x.firstError(), error);
        Check.same("fill of " + text, Check.told(() -> x.fill(3)), filled);
    }

    private static void wrong(String text, int error) {
        reads(text, error, "throws.IllegalArgumentException");
    }

    private static void unended(String text) {
        wrong(text, text.length());
    }

    private static void right(String text, int metres) {
        reads(text, text.length(), Integer.toString(metres));
    }

    private static void fullBuffer() {
        DrawnSlivers x = typed("12" + times(",12", 19));
        Check.same("the 60th", x.append('*'), 60);
        Check.badState("the 61st", () -> x.append('2'));
        Check.same("60 stay", x.firstError(), 60);
        Check.badArgument("and are no sliver", () -> x.fill(0));
        Check.same("60 were there", x.clearBuffer(), 60);
        DrawnSlivers y = typed("12" + times(",12", 18) + ",345");
        Check.same("60 characters of a sliver", y.fill(0), 20);
        Check.same("the last of them is read", y.metre(0, 19), 345);
    }

    private static void parts() {
        unended("");
        right("5", 1);
        right("5,6", 2);
        right("1" + times(",1", 28), 29);
        right("12" + times(",1", 29), 30);
    }

    private static void commas() {
        wrong(",", 0);
        wrong(",5", 0);
        unended("5,");
        wrong("5,,5", 2);
        wrong("5;5", 1);
        right("5*2,5", 3);
        wrong("5*2,,", 4);
        wrong("5*,", 2);
    }

    private static void weightsOfTexts() {
        right("0", 1);
        right("9", 1);
        right("10", 1);
        right("99", 1);
        right("100", 1);
        right("999", 1);
        wrong("1000", 3);
        wrong("9999", 3);
        wrong("-1", 0);
        wrong("5,1000", 5);
        right("0*2", 2);
        right("999*2", 2);
        wrong("1000*2", 3);
    }

    private static void stars() {
        unended("5*");
        wrong("*", 0);
        wrong("*5", 0);
        wrong("5**2", 2);
        wrong("5*2*2", 3);
        wrong("5*12*2", 4);
        wrong("5,*2", 2);
        right("5*2,6*3", 5);
    }

    private static void timesOfTexts() {
        wrong("5*0", 2);
        unended("5*1");
        wrong("5*1,", 3);
        wrong("5*1,5", 3);
        right("5*2", 2);
        right("5*9", 9);
        right("5*10", 10);
        right("5*19", 19);
        right("5*39", 39);
        right("5*40", 40);
        wrong("5*41", 3);
        wrong("5*49", 3);
        wrong("5*50", 3);
        wrong("5*99", 3);
        wrong("5*100", 4);
        wrong("5*400", 4);
    }

    private static void zeros() {
        wrong("00", 1);
        wrong("01", 1);
        wrong("0999", 1);
        wrong("5,01", 3);
        wrong("5*02", 2);
        wrong("5*010", 2);
        right("0,0", 2);
        right("10,100*20", 21);
    }

    private static void leftToRight() {
        wrong("5x,,", 1);
        wrong("x5", 0);
        wrong("5,6,a,01", 4);
        wrong("01,x", 1);
    }

    private static void beginnings() {
        unended("1" + times(",1", 29) + ",");
        unended("1" + times(",1", 28) + ",1*");
        unended("1" + times(",12", 19) + "*");
        unended("1" + times(",1", 27) + ",33*1");
        wrong("1" + times(",1", 27) + ",33*0", 59);
        // Of any length: more metres than a can takes are no syntax error.
        reads("1*40,2", 6, "throws.IllegalStateException");
        reads("1*40" + times(",1*40", 11), 59, "throws.IllegalStateException");
        for (int code = 33; code <= 126; code++) {
            char sign = (char) code;
            boolean digit = sign >= '0' && sign <= '9';
            Check.same("first " + sign, typed("" + sign).firstError(), digit ? 1 : 0);
            Check.same("behind a weight " + sign, typed("7" + sign).firstError(), digit || sign == '*' || sign == ',' ? 2 : 1);
            Check.same("behind a star " + sign, typed("7*" + sign).firstError(), digit && sign != '0' ? 3 : 2);
            Check.same("behind times " + sign, typed("7*4" + sign).firstError(), sign == '0' || sign == ',' ? 4 : 3);
            Check.same("behind a comma " + sign, typed("7," + sign).firstError(), digit ? 3 : 2);
        }
    }

    // ---- Undo

    private static void saving() {
        Sentence.holds("Undo", "does not throw an exception saves the state", TermsBoundaries::throwsSaveNothing);
        Sentence.holds("Undo", "(also if it changes nothing)", TermsBoundaries::savedThoughNothingChanges);
        Sentence.holds("Undo", "all, also what is counted so far", TermsBoundaries::countsAreSaved);
        Sentence.holds("Undo", "and what the feeler remembers", TermsBoundaries::feelerIsSaved);
        Sentence.holds("Undo", "but the buffer", TermsBoundaries::bufferIsNotSaved);
        Sentence.holds("Undo", "the snapshot and the saved states", TermsBoundaries::snapshotIsNotSaved);
        Sentence.holds("Undo", "the snapshot and the saved states", TermsBoundaries::savedStatesAreNotSaved);
        Sentence.holds("Undo", "At most 6 states are saved", TermsBoundaries::sixStates);
        Sentence.holds("Undo", "the oldest one is dropped first", TermsBoundaries::oldestIsDropped);
    }

    /** Four states are saved, there is a snapshot of the state, and the buffer tells a sliver. */
    static DrawnSlivers busy() {
        DrawnSlivers x = new DrawnSlivers();
        put(x, 0, "20,45,60,33");
        put(x, 1, "5*6");
        x.feed(3);
        x.run(2);
        x.keep();
        type(x, "7,8*2");
        return x;
    }

    /** The call is undoable. */
    static void undoes(String what, DrawnSlivers x, Act act) {
        String before = looks(x);
        int saved = x.count(11);
        act.on(x);
        Check.same("saved by " + what, x.count(11), saved + 1);
        Check.same("undo of " + what, x.undo(), saved);
        Check.same("undone " + what, looks(x), before);
    }

    private static void throwsSaveNothing() {
        DrawnSlivers x = busy();
        Check.noCan("fill(8)", () -> x.fill(8));
        Check.noCan("tip(8)", () -> x.tip(8));
        Check.badArgument("feed(256)", () -> x.feed(256));
        Check.noCan("out(8)", () -> x.out(8));
        Check.badArgument("run(0)", () -> x.run(0));
        Check.noCan("set(5, 1)", () -> x.set(5, 1));
        Check.badArgument("set(0, 7)", () -> x.set(0, 7));
        type(x, ",");
        Check.badArgument("fill(0)", () -> x.fill(0));
        type(x, "1*40");
        Check.badState("fill(1)", () -> x.fill(1));
        Check.same("saved", x.count(11), 4);
        DrawnSlivers y = fed("20");
        Check.badState("goBack()", y::goBack);
        Check.same("saved without a snapshot", y.count(11), 2);
    }

    private static void savedThoughNothingChanges() {
        undoes("tip of an empty can", busy(), x -> x.tip(5));
        undoes("feed of the same cans", busy(), x -> x.feed(3));
        undoes("out of the same can", busy(), x -> x.out(7));
        undoes("clear of a new one", new DrawnSlivers(), x -> x.clear());
        undoes("set to the same", busy(), x -> x.set(2, 20));
        undoes("goBack to the same", busy(), x -> x.goBack());
        undoes("run of none", new DrawnSlivers(), x -> x.run(40));
    }

    private static void countsAreSaved() {
        DrawnSlivers x = fed("20,41,999");
        x.run(1);
        String before = looks(x);
        x.run(2);
        put(x, 5, "9*2");
        x.tip(5);
        Check.same("counted meanwhile", x.count(0) + x.count(3) + x.count(4) + x.count(5) + x.count(6), 3 + 1 + 8 + 8 + 999 + 18);
        Check.same("came out meanwhile", x.count(10), 1 + 2);
        x.undo();
        x.undo();
        x.undo();
        int[] due = {1, 1, 7, 0, 1, 0, 0, 1060, 1060, 1060, 1, 3};
        for (int what = 0; what < 12; what++) {
            Check.same("count(" + what + ") again", x.count(what), due[what]);
        }
        Check.same("all again", looks(x), before);
    }

    private static void feelerIsSaved() {
        DrawnSlivers x = fed("20,21,22,23,24,25,26,27,28");
        x.run(7);
        x.run(1);
        x.undo();
        Check.same("the oldest feed is back", feelerOf(x), "26,25,24,23,22,21,20");
        x.clear();
        x.run(1);
        x.undo();
        Check.same("nothing remembered again", feelerOf(x), "-1,-1,-1,-1,-1,-1,-1");
        x.undo();
        Check.same("all remembered again", feelerOf(x), "26,25,24,23,22,21,20");
        x.feed(2);
        x.undo();
        Check.same("though other cans were fed", feelerOf(x), "26,25,24,23,22,21,20");
    }

    private static void bufferIsNotSaved() {
        DrawnSlivers x = typed("5*3");
        x.fill(0);
        x.undo();
        Check.same("a cleared buffer stays cleared", x.clearBuffer(), 0);
        x.tip(0);
        type(x, "1,2");
        x.undo();
        Check.same("a text stays", x.firstError(), 3);
        x.tip(0);
        x.clearBuffer();
        x.undo();
        Check.same("a text does not come back", x.clearBuffer(), 0);
        x.keep();
        type(x, "77");
        x.goBack();
        Check.same("goBack leaves it too", x.clearBuffer(), 2);
    }

    private static void snapshotIsNotSaved() {
        DrawnSlivers x = new DrawnSlivers();
        x.out(1);
        x.keep();
        x.undo();
        Check.same("undo leaves a snapshot", x.goBack(), 0);
        Check.same("as it was kept", x.count(2), 1);
        x.out(2);
        x.keep();
        x.undo();
        x.goBack();
        Check.same("undo does not bring back the one before", x.count(2), 2);
        x.undo();
        x.goBack();
        Check.same("nor does undo of goBack drop it", x.count(2), 2);
    }

    private static void savedStatesAreNotSaved() {
        DrawnSlivers x = new DrawnSlivers();
        x.out(1);
        x.keep();
        x.out(2);
        x.out(3);
        x.goBack();
        Check.same("goBack saves one more", x.count(11), 4);
        Check.same("undo of goBack", x.undo(), 3);
        Check.same("is the state before", x.count(2), 3);
        Check.same("undo of 3", x.undo(), 2);
        Check.same("undo of 2", x.undo(), 1);
        Check.same("is 1", x.count(2), 1);
        Check.same("undo of 1", x.undo(), 0);
        Check.same("goBack behind all", x.goBack() + x.count(11), 1);
    }

    private static void sixStates() {
        DrawnSlivers x = new DrawnSlivers();
        for (int call = 1; call <= 20; call++) {
            x.out(call % 8);
            Check.same("saved by " + call + " calls", x.count(11), Math.min(call, 6));
        }
        for (int left = 5; left >= 0; left--) {
            Check.same("undo", x.undo(), left);
        }
        Check.badState("the seventh undo", x::undo);
    }

    private static void oldestIsDropped() {
        for (int calls = 5; calls <= 14; calls++) {
            DrawnSlivers x = new DrawnSlivers();
            for (int call = 1; call <= calls; call++) {
                x.set(2, 30 + call);
            }
            for (int back = 1; back <= Math.min(calls, 6); back++) {
                x.undo();
                Check.same(back + " back of " + calls, x.setting(2), calls == back ? 20 : 30 + calls - back);
            }
            Check.badState("no more back of " + calls, x::undo);
        }
        DrawnSlivers y = new DrawnSlivers();
        for (int round = 0; round < 10; round++) {
            for (int call = 0; call < 4; call++) {
                y.set(4, 100 + 10 * round + call);
            }
            y.undo();
            Check.same("undo between in round " + round, y.setting(4), 102 + 10 * round);
        }
    }

    // ---- Exceptions

    private static void exceptions() {
        Sentence.holds("Exceptions", CHANGES_NOTHING, TermsBoundaries::wrongCallsOfABusyOne);
        Sentence.holds("Exceptions", CHANGES_NOTHING, TermsBoundaries::fullOnes);
        Sentence.holds("Exceptions", CHANGES_NOTHING, TermsBoundaries::newOnes);
        Sentence.holds("Exceptions", FIRST_NAMED, TermsBoundaries::firstOfFill);
        Sentence.holds("Exceptions", FIRST_NAMED, TermsBoundaries::firstOfTheOthers);
        Sentence.holds("Exceptions", "`NONE = -1`: There is nothing to return.",
                () -> Check.same("NONE", DrawnSlivers.NONE, -1));
        Sentence.plain("Exceptions", "the interface says: ---- cans.");
        Sentence.plain("Exceptions", "the interface says: ---- the frame.");
        Sentence.plain("Exceptions", "the interface says: ---- texts, the snapshot.");
        Sentence.holds("Exceptions", "---- looks; nothing is changed.", TermsBoundaries::looksChangeNothing);
        Sentence.holds("Exceptions", "---- what would be; nothing is changed.", TermsBoundaries::forecastsChangeNothing);
    }

    /** Two objects answer the same, now and behind each undo, and have the same snapshot. */
    static void alike(String what, DrawnSlivers x, DrawnSlivers y) {
        Check.same("digest behind " + what, x.digest(), y.digest());
        Check.same("looks behind " + what, looks(x), looks(y));
        Check.same("goBack behind " + what, Check.told(x::goBack), Check.told(y::goBack));
        Check.same("snapshot behind " + what, looks(x), looks(y));
        int states = x.count(11);
        Check.same("saved behind " + what, states, y.count(11));
        for (int state = 0; state < states; state++) {
            Check.same("undo behind " + what, Check.told(x::undo), Check.told(y::undo));
            Check.same("undone behind " + what, x.digest(), y.digest());
        }
        Check.same("text behind " + what, Check.told(() -> x.fill(6)), Check.told(() -> y.fill(6)));
        Check.same("sliver behind " + what, sliver(x, 6), sliver(y, 6));
        Check.same("buffer behind " + what, x.clearBuffer(), y.clearBuffer());
    }

    private static void refused(String what, DrawnSlivers x, DrawnSlivers twin, Act act) {
        boolean thrown = false;
        try {
            act.on(x);
        } catch (IllegalArgumentException | IllegalStateException | IndexOutOfBoundsException e) {
            thrown = true;
        }
        Check.same(what + " is refused", thrown ? 1 : 0, 1);
        alike(what, x, twin);
    }

    private static void wrongCallsOfABusyOne() {
        refused("fill(8)", busy(), busy(), x -> x.fill(8));
        refused("tip(-1)", busy(), busy(), x -> x.tip(-1));
        refused("tip(8)", busy(), busy(), x -> x.tip(8));
        refused("feed(-1)", busy(), busy(), x -> x.feed(-1));
        refused("feed(256)", busy(), busy(), x -> x.feed(256));
        refused("out(-1)", busy(), busy(), x -> x.out(-1));
        refused("out(8)", busy(), busy(), x -> x.out(8));
        refused("run(0)", busy(), busy(), x -> x.run(0));
        refused("run(41)", busy(), busy(), x -> x.run(41));
        refused("set(5, 1)", busy(), busy(), x -> x.set(5, 1));
        refused("set(-1, 1)", busy(), busy(), x -> x.set(-1, 1));
        refused("set(0, 7)", busy(), busy(), x -> x.set(0, 7));
        refused("set(4, 9)", busy(), busy(), x -> x.set(4, 9));
        refused("append(32)", busy(), busy(), x -> x.append(32));
        refused("append(127)", busy(), busy(), x -> x.append(127));
        refused("can(8, 0)", busy(), busy(), x -> x.can(8, 0));
        refused("can(0, 8)", busy(), busy(), x -> x.can(0, 8));
        refused("metre(8, 0)", busy(), busy(), x -> x.metre(8, 0));
        refused("metre(0, -1)", busy(), busy(), x -> x.metre(0, -1));
        refused("feeler(7)", busy(), busy(), x -> x.feeler(7));
        refused("count(12)", busy(), busy(), x -> x.count(12));
        refused("setting(5)", busy(), busy(), x -> x.setting(5));
        refused("ifRun(0, 0)", busy(), busy(), x -> x.ifRun(0, 0));
        refused("ifRun(1, 5)", busy(), busy(), x -> x.ifRun(1, 5));
        refused("bestLag(41)", busy(), busy(), x -> x.bestLag(41));
        refused("bestFeed(7)", busy(), busy(), x -> x.bestFeed(7));
        refused("mean(8)", busy(), busy(), x -> x.mean(8));
    }

    private static DrawnSlivers full(String text) {
        DrawnSlivers x = new DrawnSlivers();
        put(x, 2, "3*40");
        x.keep();
        type(x, text);
        return x;
    }

    private static void fullOnes() {
        refused("fill of a full can", full("5"), full("5"), x -> x.fill(2));
        refused("fill of too long a sliver", full("5*40,6"), full("5*40,6"), x -> x.fill(3));
        refused("fill by an unended text", full("5,6*"), full("5,6*"), x -> x.fill(3));
        refused("fill by a wrong text", full("5,6,,"), full("5,6,,"), x -> x.fill(3));
        refused("append to a full buffer", full(times("7", 60)), full(times("7", 60)), x -> x.append('8'));
    }

    /** No state is saved, but the first of seven calls stands. */
    private static DrawnSlivers undoneSix() {
        DrawnSlivers x = new DrawnSlivers();
        put(x, 3, "20,30");
        for (int can = 0; can < 6; can++) {
            x.out(can);
        }
        for (int back = 0; back < 6; back++) {
            x.undo();
        }
        return x;
    }

    private static void newOnes() {
        refused("goBack without a snapshot", fed("5"), fed("5"), x -> x.goBack());
        refused("undo without a state", typed("5"), typed("5"), x -> x.undo());
        refused("undo when all are undone", undoneSix(), undoneSix(), x -> x.undo());
        refused("fill of an empty buffer", fed("5"), fed("5"), x -> x.fill(0));
    }

    private static void firstOfFill() {
        DrawnSlivers x = full("");
        Check.noCan("no can, no text", () -> x.fill(8));
        type(x, "1*40,2");
        Check.noCan("no can, no room", () -> x.fill(-1));
        type(x, ",");
        Check.badArgument("no whole text, no room", () -> x.fill(2));
        Check.noCan("no can, no whole text", () -> x.fill(8));
    }

    private static void firstOfTheOthers() {
        DrawnSlivers x = full(times("7", 60));
        Check.noCan("set: no setting, no value", () -> x.set(5, -1));
        Check.noCan("set: no setting below, no value", () -> x.set(-1, 1000));
        Check.badArgument("append: no code, no room", () -> x.append(127));
        Check.noCan("can: no can, no what", () -> x.can(8, 8));
        Check.noCan("can: no can below, no what", () -> x.can(-1, -1));
        Check.noCan("metre: no can, no metre", () -> x.metre(8, -1));
        Check.badArgument("ifRun: no steps, no what", () -> x.ifRun(0, 5));
    }

    private static void looksChangeNothing() {
        DrawnSlivers x = busy();
        for (int number = 0; number < 8; number++) {
            for (int can = 0; can < 8; can++) {
                x.can(can, number);
            }
            x.metre(number, number);
            x.metre(number, 40);
        }
        for (int number = 0; number < 12; number++) {
            x.count(number);
        }
        for (int number = 0; number < 7; number++) {
            x.feeler(number);
        }
        for (int number = 0; number < 5; number++) {
            x.setting(number);
        }
        x.why();
        alike("looks", x, busy());
    }

    private static void forecastsChangeNothing() {
        DrawnSlivers x = busy();
        for (int steps = 1; steps <= 40; steps += 13) {
            for (int what = 0; what < 5; what++) {
                x.ifRun(steps, what);
            }
            x.bestLag(steps);
        }
        for (int many = 1; many <= 6; many++) {
            x.bestFeed(many);
        }
        for (int can = 0; can < 8; can++) {
            x.mean(can);
        }
        x.wasteShare();
        x.digest();
        alike("forecasts", x, busy());
        DrawnSlivers lapping = fed("20,999,20");
        for (int what = 0; what < 5; what++) {
            lapping.ifRun(40, what);
        }
        lapping.bestLag(40);
        alike("forecasts of a lap", lapping, fed("20,999,20"));
    }
}
