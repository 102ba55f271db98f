/** Boundary cases of the promises 9 to 14: texts, the snapshot, undo. */
final class TextBoundaries extends Slivers {
    static void all() {
        append();
        clearBuffer();
        firstError();
        keep();
        goBack();
        undo();
    }

    private static void append() {
        String section = "Promise 9";
        Sentence.holds(section, "Appends a character to the buffer.", TextBoundaries::appends);
        Sentence.holds(section, "`code`: the character code, 33 to 126", TextBoundaries::codesAtTheirEdges);
        Sentence.holds(section, "Returns the new length of the buffer.", TextBoundaries::newLength);
        Sentence.holds(section, "Throws `IllegalArgumentException` if code is not 33 to 126", TextBoundaries::noCode);
        Sentence.holds(section, "Throws `IllegalStateException` if the buffer has 60 characters", TextBoundaries::appendsToFull);
    }

    private static void appends() {
        DrawnSlivers x = new DrawnSlivers();
        put(x, 0, "12,3");
        Check.same("in their order", sliver(x, 0), "12,3");
        type(x, "4");
        type(x, "56");
        x.fill(0);
        Check.same("behind one another", sliver(x, 0), "12,3,456");
        x.append('7');
        Check.same("not undoable", x.count(11), 2);
    }

    private static void codesAtTheirEdges() {
        DrawnSlivers x = new DrawnSlivers();
        Check.same("33", x.append(33), 1);
        Check.same("126", x.append(126), 2);
        Check.same("both are wrong", x.firstError(), 0);
        DrawnSlivers y = new DrawnSlivers();
        int length = 0;
        for (int code = 33; code <= 126; code++) {
            Check.same("append(" + code + ")", y.append(code), ++length);
            if (length == 60) {
                length = 60 - y.clearBuffer();
            }
        }
    }

    private static void newLength() {
        DrawnSlivers x = new DrawnSlivers();
        for (int length = 1; length <= 60; length++) {
            Check.same("append", x.append('9'), length);
        }
    }

    private static void noCode() {
        DrawnSlivers x = new DrawnSlivers();
        for (int wrong : new int[] {32, 127, 0, -1, 10, 255, 33 + 256, 49 + 65536, LOW, HIGH}) {
            Check.badArgument("append(" + wrong + ")", () -> x.append(wrong));
        }
        Check.same("still empty", x.clearBuffer(), 0);
    }

    private static void appendsToFull() {
        DrawnSlivers x = typed(times("1", 59));
        Check.same("the 60th", x.append('1'), 60);
        Check.badState("the 61st", () -> x.append('1'));
        Check.badState("the 61st again", () -> x.append(126));
        Check.same("60 stay", x.clearBuffer(), 60);
        Check.same("then there is room", x.append('1'), 1);
    }

    // ---- clearBuffer

    private static void clearBuffer() {
        String section = "Promise 10";
        Sentence.holds(section, "Clears the buffer.", TextBoundaries::clears);
        Sentence.holds(section, "Returns the length that it had.", TextBoundaries::lengthBefore);
    }

    private static void clears() {
        DrawnSlivers x = typed("1x");
        x.clearBuffer();
        Check.same("no error is left", x.firstError(), 0);
        Check.badArgument("no sliver is left", () -> x.fill(0));
        Check.same("what comes then stands alone", put(x, 0, "5"), 1);
        type(x, "6");
        x.clearBuffer();
        Check.same("not undoable", x.count(11), 1);
    }

    private static void lengthBefore() {
        DrawnSlivers x = new DrawnSlivers();
        Check.same("empty", x.clearBuffer(), 0);
        type(x, "~");
        Check.same("one", x.clearBuffer(), 1);
        Check.same("empty again", x.clearBuffer(), 0);
        type(x, times("2", 60));
        Check.same("full", x.clearBuffer(), 60);
    }

    // ---- firstError

    private static void firstError() {
        String section = "Promise 11";
        Sentence.holds(section, "Finds the first syntax error of the buffer.", TextBoundaries::firstOfSeveral);
        Sentence.holds(section, "Returns the index of the first character that is a syntax error", TextBoundaries::errorsAtTheEdges);
        Sentence.holds(section, "the length of the buffer if there is none", TextBoundaries::noError);
    }

    private static void firstOfSeveral() {
        Check.same("two of them", typed("1,x2,y").firstError(), 2);
        Check.same("the second number", typed("1,02,03").firstError(), 3);
        DrawnSlivers x = typed("1*1");
        Check.same("none yet", x.firstError(), 3);
        x.append(',');
        Check.same("by the next character", x.firstError(), 3);
        x.append('5');
        Check.same("it stays the first", x.firstError(), 3);
    }

    private static void errorsAtTheEdges() {
        Check.same("the first character", typed("*").firstError(), 0);
        Check.same("the 60th", typed(times("1,", 29) + "1!").firstError(), 59);
        Check.same("the 60th, too great", typed(times("1,", 28) + "9999").firstError(), 59);
        Check.same("the 59th", typed(times("1,", 29) + ",1").firstError(), 58);
    }

    private static void noError() {
        Check.same("empty", new DrawnSlivers().firstError(), 0);
        Check.same("one", typed("0").firstError(), 1);
        Check.same("60", typed(times("1,", 30)).firstError(), 60);
        Check.same("60 of a whole sliver", typed(times("1,", 29) + "10").firstError(), 60);
        DrawnSlivers x = typed("1,x");
        x.clearBuffer();
        Check.same("cleared", x.firstError(), 0);
    }

    // ---- keep

    private static void keep() {
        String section = "Promise 12";
        Sentence.holds(section, "Takes a snapshot of the state (of all that undo() would restore)", TextBoundaries::snapshotOfAll);
        Sentence.holds(section, "Takes a snapshot of the state", TextBoundaries::keepSavesNoState);
        Sentence.holds(section, "in place of the one that was", TextBoundaries::snapshotInPlace);
        Sentence.holds(section, "Returns how many steps were done so far.", TextBoundaries::stepsAtKeep);
    }

    private static void snapshotOfAll() {
        DrawnSlivers x = fed("20,45,999,30");
        x.run(40);
        put(x, 5, "1,2*3");
        x.tip(5);
        put(x, 5, "1,2*3");
        x.set(0, 6);
        x.out(6);
        String kept = looks(x);
        x.keep();
        Check.same("it changes nothing", looks(x), kept);
        x.clear();
        x.feed(32);
        x.out(1);
        x.set(0, 0);
        x.set(1, 1);
        x.set(2, 1);
        x.set(3, 0);
        x.set(4, 999);
        x.run(4);
        x.tip(0);
        x.goBack();
        Check.same("all is as kept", looks(x), kept);
    }

    private static void keepSavesNoState() {
        DrawnSlivers x = new DrawnSlivers();
        x.keep();
        Check.same("none", x.count(11), 0);
        x.out(1);
        x.keep();
        x.keep();
        Check.same("one", x.count(11), 1);
        x.undo();
        Check.same("undone is what was ahead of out", x.count(2), 7);
    }

    private static void snapshotInPlace() {
        DrawnSlivers x = new DrawnSlivers();
        x.keep();
        x.out(1);
        x.keep();
        x.out(2);
        x.goBack();
        Check.same("the later one", x.count(2), 1);
        x.keep();
        x.out(3);
        x.goBack();
        Check.same("one of what was gone back to", x.count(2), 1);
    }

    private static void stepsAtKeep() {
        Check.same("none", new DrawnSlivers().keep(), 0);
        DrawnSlivers x = fed("20*9");
        x.run(4);
        Check.same("four", x.keep(), 4);
        x.run(5);
        Check.same("nine", x.keep(), 9);
        x.undo();
        Check.same("four behind undo", x.keep(), 4);
    }

    // ---- goBack

    private static void goBack() {
        String section = "Promise 13";
        Sentence.holds(section, "Goes back to the snapshot", TextBoundaries::goesBack);
        Sentence.holds(section, "which stays", TextBoundaries::snapshotStays);
        Sentence.holds(section, "Undoable.", TextBoundaries::goBackIsUndoable);
        Sentence.holds(section, "Returns how many steps were done so far then.", TextBoundaries::stepsThen);
        Sentence.holds(section, "Throws `IllegalStateException` if there is no snapshot", TextBoundaries::noSnapshot);
    }

    private static void goesBack() {
        DrawnSlivers x = TermsBoundaries.busy();
        String kept = looks(x);
        x.goBack();
        Check.same("at once", looks(x), kept);
        x.run(40);
        x.goBack();
        Check.same("behind a run", looks(x), kept);
        x.feed(1);
        x.goBack();
        Check.same("what the feeler remembered is back", feelerOf(x), "50,25,-1,-1,-1,-1,-1");
    }

    private static void snapshotStays() {
        DrawnSlivers x = TermsBoundaries.busy();
        String kept = looks(x);
        for (int round = 0; round < 3; round++) {
            x.run(1);
            x.tip(round);
            x.set(2, 50 + round);
            x.goBack();
            Check.same("round " + round, looks(x), kept);
        }
    }

    private static void goBackIsUndoable() {
        DrawnSlivers x = TermsBoundaries.busy();
        x.run(1);
        TermsBoundaries.undoes("goBack", x, y -> y.goBack());
        DrawnSlivers full = new DrawnSlivers();
        full.keep();
        for (int can = 1; can <= 6; can++) {
            full.out(can);
        }
        full.goBack();
        Check.same("six at most", full.count(11), 6);
        full.undo();
        Check.same("undone", full.count(2), 6);
        for (int left = 4; left >= 0; left--) {
            Check.same("undo", full.undo(), left);
        }
        Check.same("the oldest was dropped", full.count(2), 1);
    }

    private static void stepsThen() {
        DrawnSlivers x = fed("20*9");
        x.keep();
        x.run(4);
        Check.same("none", x.goBack(), 0);
        x.run(2);
        x.keep();
        x.run(7);
        Check.same("two", x.goBack(), 2);
        Check.same("count(0)", x.count(0), 2);
    }

    private static void noSnapshot() {
        DrawnSlivers x = new DrawnSlivers();
        Check.badState("a new one", x::goBack);
        x.out(1);
        x.undo();
        Check.badState("with saved states alone", x::goBack);
        x.keep();
        Check.same("then there is one", x.goBack(), 0);
    }

    // ---- undo

    private static void undo() {
        String section = "Promise 14";
        Sentence.holds(section, "Restores the latest saved state", TextBoundaries::latestState);
        Sentence.holds(section, "and drops it", TextBoundaries::dropsIt);
        Sentence.holds(section, "Returns how many saved states are left.", TextBoundaries::statesLeft);
        Sentence.holds(section, "Throws `IllegalStateException` if there is none", TextBoundaries::noState);
    }

    private static void latestState() {
        DrawnSlivers x = fed("20,999,30*5");
        put(x, 3, "5*40");
        String filled = looks(x);
        x.run(40);
        String stopped = looks(x);
        x.clear();
        x.run(3);
        x.undo();
        x.undo();
        Check.same("stopped again", looks(x), stopped);
        x.tip(3);
        x.undo();
        Check.same("a full can is back", looks(x), stopped);
        x.undo();
        Check.same("ahead of the run", looks(x), filled);
    }

    private static void dropsIt() {
        DrawnSlivers x = new DrawnSlivers();
        x.out(1);
        x.out(2);
        x.undo();
        Check.same("the second one", x.count(2), 1);
        x.undo();
        Check.same("the first one", x.count(2), 7);
        x.out(3);
        x.undo();
        Check.same("an undo is not undone", x.count(2), 7);
        Check.same("none is left", x.count(11), 0);
    }

    private static void statesLeft() {
        DrawnSlivers x = new DrawnSlivers();
        for (int call = 0; call < 7; call++) {
            x.out(call);
        }
        for (int left = 5; left >= 0; left--) {
            Check.same("undo", x.undo(), left);
            Check.same("count(11)", x.count(11), left);
        }
    }

    private static void noState() {
        DrawnSlivers x = new DrawnSlivers();
        Check.badState("a new one", x::undo);
        x.keep();
        type(x, "5");
        Check.badState("behind calls that are not undoable", x::undo);
        x.clear();
        Check.same("behind one that is", x.undo(), 0);
        Check.badState("all are undone", x::undo);
        for (int call = 0; call < 7; call++) {
            x.out(call);
        }
        for (int left = 5; left >= 0; left--) {
            x.undo();
        }
        Check.badState("the seventh of seven", x::undo);
        Check.same("the first call stays", x.count(2), 0);
    }
}
