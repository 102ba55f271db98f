/** For each promise of the document: ordinary inputs, the edges that it names, and wrong inputs. */
public final class PromiseTest extends Slivers {

    public static void main(String[] args) {
        newObject();
        fill();
        tip();
        feed();
        out();
        run();
        runEnds();
        draftOfAStep();
        lapsOfAStep();
        clear();
        set();
        append();
        clearBuffer();
        firstError();
        keepAndGoBack();
        undo();
        can();
        metre();
        feeler();
        count();
        setting();
        why();
        ifRun();
        bestLag();
        bestFeed();
        mean();
        wasteShare();
        digest();
        looksChangeNothing();
        throwsChangeNothing();
        Check.end("PromiseTest");
    }

    private static void newObject() {
        DrawnSlivers x = new DrawnSlivers();
        Check.same("NONE", DrawnSlivers.NONE, -1);
        Check.same("new looks", looks(x),
                "0 0 7 0 0 0 0 0 0 0 0 0 4 20 1 60 [][][][][][][][]-1,-1,-1,-1,-1,-1,-1");
        Check.same("new count(11)", x.count(11), 0);
        Check.same("new clearBuffer", x.clearBuffer(), 0);
        Check.same("new why", x.why(), 2);
        Check.badState("new goBack", x::goBack);
        Check.badState("new undo", x::undo);
    }

    private static void fill() {
        DrawnSlivers x = new DrawnSlivers();
        Check.same("fill first", put(x, 0, "50*2,30"), 3);
        Check.same("fill clears the buffer", x.clearBuffer(), 0);
        Check.same("fill behind", put(x, 0, "0,999*3,7"), 8);
        Check.same("filled sliver", sliver(x, 0), "50,50,30,0,999,999,999,7");
        Check.same("filled weight", x.count(7), 130 + 2997 + 7);
        Check.same("fill the last can", put(x, 7, "1*10"), 10);
        Check.same("fill saves", x.count(11), 3);
        x.undo();
        Check.same("fill undone", x.can(7, 0), 0);
        Check.same("undo leaves the buffer", x.clearBuffer(), 0);

        DrawnSlivers y = new DrawnSlivers();
        Check.same("fill 40", put(y, 2, "1*40"), 40);
        type(y, "5");
        Check.badState("fill the 41st", () -> y.fill(2));
        Check.same("buffer stays", y.clearBuffer(), 1);
        Check.same("fill just to 39", put(y, 3, "1*37,2*2"), 39);
        type(y, "5*2");
        Check.badState("fill to 41", () -> y.fill(3));
        y.clearBuffer();
        Check.same("fill to 40", put(y, 3, "5"), 40);
        type(y, "1*40,2");
        Check.badState("a text of 41 metres", () -> y.fill(4));
        y.clearBuffer();
        type(y, "1*40,1*40,1*40,1*40,1*40,1*40,1*40,1*40,1*40,1*40,1*40,1*40");
        Check.badState("a text of 480 metres", () -> y.fill(4));
        for (int wrong : new int[] {-1, 8, LOW, HIGH}) {
            Check.noCan("fill(" + wrong + ")", () -> y.fill(wrong));
        }
        y.clearBuffer();
        Check.badArgument("fill of an empty buffer", () -> y.fill(2));
        Check.noCan("no can ahead of no text", () -> y.fill(8));
        for (String text : new String[] {",", "1,", "1*", "1*1", "01", "1000", "a", "1*2*2", "1**2", "5x", "5,x", "1*41"}) {
            DrawnSlivers z = typed(text);
            Check.badArgument("fill of " + text, () -> z.fill(0));
            Check.same("buffer stays " + text, z.clearBuffer(), text.length());
            Check.same("nothing saved " + text, z.count(11), 0);
        }
        type(y, "1*");
        Check.badArgument("no text ahead of no room", () -> y.fill(2));
        DrawnSlivers most = new DrawnSlivers();
        Check.same("fill of 30 parts", put(most, 0, "1,2,3,4,5,6,7,8,9,1,2,3,4,5,6,7,8,9,1,2,3,4,5,6,7,8,9,0,1,10"), 30);
        Check.same("the last of 30 parts", most.metre(0, 29), 10);
    }

    private static void tip() {
        DrawnSlivers x = new DrawnSlivers();
        put(x, 4, "10,20*2");
        put(x, 5, "7");
        Check.same("tip", x.tip(4), 3);
        Check.same("tipped", x.can(4, 0), 0);
        Check.same("others stay", x.can(5, 0), 1);
        Check.same("tip is waste", x.count(6), 50);
        Check.same("tip is no lap", x.count(5), 0);
        Check.same("tip an empty one", x.tip(4), 0);
        Check.same("no more waste", x.count(6), 50);
        Check.same("tip saves also if nothing changes", x.count(11), 4);
        x.undo();
        x.undo();
        Check.same("tip undone", sliver(x, 4), "10,20,20");
        Check.same("waste undone", x.count(6), 0);
        Check.same("tip can 0", x.tip(0), 0);
        Check.same("tip can 7", x.tip(7), 0);
        for (int wrong : new int[] {-1, 8, LOW, HIGH}) {
            Check.noCan("tip(" + wrong + ")", () -> x.tip(wrong));
        }
    }

    private static void feed() {
        DrawnSlivers x = new DrawnSlivers();
        Check.same("feed 255", x.feed(255), 0);
        Check.same("mask", x.count(1), 255);
        Check.same("feed 0", x.feed(0), 255);
        Check.same("feed 128", x.feed(128), 0);
        Check.same("feed saves", x.count(11), 3);
        for (int wrong : new int[] {-1, 256, LOW, HIGH}) {
            Check.badArgument("feed(" + wrong + ")", () -> x.feed(wrong));
        }
        x.undo();
        Check.same("feed undone", x.count(1), 0);

        DrawnSlivers y = fed("20*9");
        y.run(2);
        y.feed(1);
        Check.same("the same cans: remembered", feelerOf(y), "20,20,-1,-1,-1,-1,-1");
        y.feed(3);
        Check.same("other cans: forgotten", feelerOf(y), "-1,-1,-1,-1,-1,-1,-1");
        y.feed(1);
        Check.same("still forgotten", y.feeler(0), -1);
        y.undo();
        y.undo();
        Check.same("undo remembers", feelerOf(y), "20,20,-1,-1,-1,-1,-1");
        y.feed(0);
        Check.same("no cans: forgotten", y.feeler(0), -1);
    }

    private static void out() {
        DrawnSlivers x = new DrawnSlivers();
        Check.same("out 0", x.out(0), 7);
        Check.same("out 7", x.out(7), 0);
        Check.same("out 3", x.out(3), 7);
        Check.same("taker", x.count(2), 3);
        Check.same("out saves", x.count(11), 3);
        for (int wrong : new int[] {-1, 8, LOW, HIGH}) {
            Check.noCan("out(" + wrong + ")", () -> x.out(wrong));
        }
        x.undo();
        Check.same("out undone", x.count(2), 7);
        DrawnSlivers y = fed("20,25,30");
        y.run(1);
        y.out(4);
        Check.same("out keeps the feeler", y.feeler(0), 20);
        y.run(1);
        Check.same("it comes to the other can", sliver(y, 4), "25");
        Check.same("not to that before", sliver(y, 7), "20");
    }

    private static void run() {
        DrawnSlivers x = new DrawnSlivers();
        put(x, 0, "50*2,30");
        put(x, 1, "33*3");
        x.feed(3);
        Check.same("run 1", x.run(1), 1);
        Check.same("the first ones are 1 heavier", sliver(x, 7), "21,21,21,20");
        Check.same("the front is taken of 0", sliver(x, 0), "50,30");
        Check.same("the front is taken of 1", sliver(x, 1), "33,33");
        Check.same("run to the end", x.run(40), 2);
        Check.same("behind one another", sliver(x, 7), "21,21,21,20,21,21,21,20,21,21,21");
        Check.same("run of none", x.run(40), 0);
        Check.same("run saves also if none is done", x.count(11), 6);
        x.undo();
        Check.same("none undone", x.count(0), 3);
        x.undo();
        Check.same("run undone", x.count(0), 1);
        Check.same("run undone in the can", x.can(7, 0), 4);
        for (int wrong : new int[] {0, -1, 41, LOW, HIGH}) {
            Check.badArgument("run(" + wrong + ")", () -> x.run(wrong));
        }
        DrawnSlivers y = fed("20*40");
        Check.same("run 40", y.run(40), 40);
        DrawnSlivers last = new DrawnSlivers();
        put(last, 7, "20,21*38,22");
        last.feed(128);
        last.out(6);
        Check.same("run from a full last can", last.run(1), 1);
        Check.same("its front is taken", last.metre(7, 0), 21);
        Check.same("its back is there", last.metre(7, 38), 22);
        Check.same("one less", last.can(7, 0), 39);
        DrawnSlivers z = fed("20*40");
        Check.same("run 39", z.run(39), 39);
        Check.same("one is left", z.can(0, 0), 1);
    }

    private static void runEnds() {
        DrawnSlivers x = fed("61,20");
        x.set(3, 0);
        x.set(1, 1);
        Check.same("the lapping step is done", x.run(9), 1);
        Check.same("then it is stopped", x.why(), 1);
        Check.same("stopped it does not run", x.run(9), 0);
        x.clear();
        Check.same("cleared it runs", x.run(9), 1);

        DrawnSlivers y = fed("80*40");
        Check.same("no room for four more", y.run(40), 10);
        Check.same("full", y.can(7, 0), 40);
        Check.same("why full", y.why(), 5);
        DrawnSlivers z = fed("80*40");
        put(z, 7, "1");
        Check.same("room for three, not for four", z.run(40), 9);
        Check.same("37 metres", z.can(7, 0), 37);
        z.set(1, 3);
        z.set(3, 0);
        Check.same("three find room", z.run(40), 1);
        Check.same("40 metres", z.can(7, 0), 40);
    }

    private static int draft(int feed, int wanted) {
        DrawnSlivers x = fed(Integer.toString(feed));
        x.set(2, wanted);
        x.set(4, 999);
        x.run(1);
        return x.count(4);
    }

    private static void draftOfAStep() {
        Check.same("20 by 20", draft(20, 20), 1);
        Check.same("29 by 20", draft(29, 20), 1);
        Check.same("a half is rounded up", draft(30, 20), 2);
        Check.same("49 by 20", draft(49, 20), 2);
        Check.same("50 by 20", draft(50, 20), 3);
        Check.same("at least 1", draft(0, 20), 1);
        Check.same("9 by 20", draft(9, 20), 1);
        Check.same("at most 8", draft(999, 20), 8);
        Check.same("169 by 20", draft(169, 20), 8);
        Check.same("149 by 20", draft(149, 20), 7);
        Check.same("150 by 20", draft(150, 20), 8);
        Check.same("odd: 31 by 21", draft(31, 21), 1);
        Check.same("odd: 32 by 21", draft(32, 21), 2);
        Check.same("by 1", draft(5, 1), 5);
        Check.same("by 99", draft(148, 99), 1);
        Check.same("by 99 up", draft(149, 99), 2);

        DrawnSlivers x = fed("60,100,60,20,60");
        x.set(0, 1);
        x.set(1, 3);
        x.run(1);
        Check.same("nothing told: setting 1", x.count(4), 3);
        x.run(1);
        Check.same("60 told", x.count(4), 3);
        x.run(1);
        Check.same("100 told", x.count(4), 5);
        x.run(1);
        Check.same("60 told again", x.count(4), 3);
        Check.same("lagged slivers", sliver(x, 7), "20,20,20,34,33,33,12,12,12,12,12,7,7,6");
        x.set(0, 3);
        x.run(1);
        Check.same("three ago", x.count(4), 5);

        DrawnSlivers y = fed("20,40,60,80,100,120,140,160");
        y.set(0, 6);
        y.set(1, 8);
        Check.same("six without", y.run(4), 4);
        Check.same("draft without", y.count(4), 8);
        y.out(5);
        y.run(2);
        Check.same("the sixth step remembers but five ahead", y.count(4), 8);
        y.run(1);
        Check.same("the seventh is told the first", y.count(4), 1);
        y.clear();
        y.out(4);
        y.run(1);
        Check.same("cleared: without again", y.count(4), 8);

        DrawnSlivers z = fed("100,20");
        z.set(3, 0);
        z.run(1);
        Check.same("not evened", z.count(4), 4);
        Check.same("but remembered", z.feeler(0), 100);
        z.set(3, 1);
        z.set(0, 1);
        z.run(1);
        Check.same("told then", z.count(4), 5);
    }

    private static void lapsOfAStep() {
        DrawnSlivers x = fed("121,7");
        x.set(3, 0);
        x.set(1, 2);
        x.run(1);
        Check.same("only the heavier one laps", sliver(x, 7), "60");
        Check.same("one lapped", x.count(5), 1);
        Check.same("its weight is waste", x.count(6), 61);
        Check.same("one came out", x.count(10), 1);
        Check.same("stopped", x.count(3), 1);
        DrawnSlivers y = fed("120");
        y.set(3, 0);
        y.set(1, 2);
        y.run(1);
        Check.same("just setting 4 does not lap", y.count(5), 0);
        Check.same("not stopped", y.count(3), 0);
        DrawnSlivers z = fed("999,40");
        z.set(3, 0);
        z.set(1, 8);
        z.run(9);
        Check.same("all lap", z.count(5), 8);
        Check.same("all waste", z.count(6), 999);
        Check.same("nothing came out", z.can(7, 0) + z.count(10), 0);
        DrawnSlivers v = new DrawnSlivers();
        for (int can = 0; can < 7; can++) {
            put(v, can, "999");
        }
        v.feed(127);
        v.set(4, 999);
        v.run(1);
        Check.same("the heaviest feed", v.feeler(0), 6993);
        Check.same("the heaviest metres", sliver(v, 7), "875,874,874,874,874,874,874,874");
        v.undo();
        v.set(3, 0);
        v.set(1, 1);
        v.run(1);
        Check.same("above 999 laps", v.count(6), 6993);
    }

    private static void clear() {
        DrawnSlivers x = fed("999,20");
        x.run(1);
        Check.same("stopped", x.count(3), 1);
        Check.same("clear", x.clear(), 1);
        Check.same("not stopped", x.count(3), 0);
        Check.same("forgotten", x.feeler(0), -1);
        Check.same("the latest draft stays", x.count(4), 8);
        x.run(1);
        Check.same("clear without a stop", x.clear(), 0);
        Check.same("forgets all the same", x.feeler(0), -1);
        x.undo();
        Check.same("clear undone", x.feeler(0), 20);
        x.undo();
        x.undo();
        Check.same("stopped again", x.count(3), 1);
        Check.same("remembers again", x.feeler(0), 999);
    }

    private static void set() {
        int[] least = {0, 1, 1, 0, 10};
        int[] most = {6, 8, 99, 1, 999};
        int[] first = {0, 4, 20, 1, 60};
        for (int setting = 0; setting < 5; setting++) {
            DrawnSlivers x = new DrawnSlivers();
            int s = setting;
            Check.same("set least " + s, x.set(s, least[s]), first[s]);
            Check.same("set most " + s, x.set(s, most[s]), least[s]);
            Check.same("is most " + s, x.setting(s), most[s]);
            Check.same("set the same " + s, x.set(s, most[s]), most[s]);
            Check.same("set saves " + s, x.count(11), 3);
            for (int wrong : new int[] {least[s] - 1, most[s] + 1, LOW, HIGH}) {
                Check.badArgument("set(" + s + ", " + wrong + ")", () -> x.set(s, wrong));
            }
            for (int other = 0; other < 5; other++) {
                Check.same("others stay " + s, x.setting(other), other == s ? most[s] : first[other]);
            }
            x.undo();
            x.undo();
            Check.same("set undone " + s, x.setting(s), least[s]);
        }
        DrawnSlivers y = new DrawnSlivers();
        for (int wrong : new int[] {-1, 5, LOW, HIGH}) {
            Check.noCan("set(" + wrong + ", 1)", () -> y.set(wrong, 1));
            Check.noCan("no setting ahead of no value " + wrong, () -> y.set(wrong, LOW));
        }
        Check.same("nothing saved", y.count(11), 0);
    }

    private static void append() {
        DrawnSlivers x = new DrawnSlivers();
        Check.same("append 33", x.append(33), 1);
        Check.same("append 126", x.append(126), 2);
        for (int wrong : new int[] {32, 127, 0, -1, LOW, HIGH, 33 + 256, 33 + 65536}) {
            Check.badArgument("append(" + wrong + ")", () -> x.append(wrong));
        }
        for (int length = 3; length <= 60; length++) {
            Check.same("append", x.append(49), length);
        }
        Check.badState("append the 61st", () -> x.append(49));
        Check.badArgument("no code ahead of no room", () -> x.append(32));
        Check.same("append is not undoable", x.count(11), 0);
        Check.same("60 stay", x.clearBuffer(), 60);
        Check.same("append again", x.append(49), 1);
    }

    private static void clearBuffer() {
        DrawnSlivers x = typed("12*3");
        Check.same("clearBuffer", x.clearBuffer(), 4);
        Check.same("clearBuffer again", x.clearBuffer(), 0);
        Check.same("not undoable", x.count(11), 0);
        Check.same("what comes then is read alone", put(x, 0, "5"), 1);
        Check.same("5", x.metre(0, 0), 5);
        Check.same("all of a text with an error goes", typed("xyz").clearBuffer(), 3);
    }

    private static void firstError() {
        String[] right = {"", "0", "9", "10", "999", "0*2", "0*", "1*1", "1*10", "1*19", "1*2", "1*20", "1*29", "1*3",
            "1*39", "1*4", "1*40", "1*5", "1*9", "999*40,", "1,", "1,2*3,0,0*9,5", "1*2,1*3"};
        for (String text : right) {
            Check.same("firstError of " + text, typed(text).firstError(), text.length());
        }
        String[] wrong = {"*", ",", "a", "-", "+", "!", "~", ".", ";", "/", ":", "0|0", "0|5", "00|", "1|a", "12|.",
            "999|9", "100|0", "1*|0", "1*|*", "1*|,", "1*1|,", "1*1|*", "1*2|*", "1*4|1", "1*4|9", "1*5|0", "1*9|9",
            "1*10|0", "1*20|0", "1*39|*", "1*40|0", "1*40|*", "1,|,", "1,|*", "1,|a", "1,0|1", "5*2,1*|0", "1*2|a", "1|a1,2"};
        for (String text : wrong) {
            int due = text.indexOf('|');
            String whole = text.replace("|", "");
            if (due == 2 && whole.equals("00")) {
                due = 1;
            }
            Check.same("firstError of " + whole, typed(whole).firstError(), Math.max(due, 0));
        }
        Check.same("the first of several", typed("1a,b").firstError(), 1);
        DrawnSlivers x = typed("1*1");
        Check.same("not yet an error", x.firstError(), 3);
        x.append(',');
        Check.same("now one", x.firstError(), 3);
        x.append('5');
        Check.same("and still", x.firstError(), 3);
        x.clearBuffer();
        Check.same("cleared", x.firstError(), 0);
        DrawnSlivers full = typed("1,1,1,1,1,1,1,1,1,1,1,1,1,1,1,1,1,1,1,1,1,1,1,1,1,1,1,1,1,1,");
        Check.same("a full buffer that goes on", full.firstError(), 60);
        Check.badArgument("but is not complete", () -> full.fill(0));
        Check.same("firstError keeps the buffer", full.clearBuffer(), 60);
    }

    private static void keepAndGoBack() {
        DrawnSlivers x = fed("20,40,60");
        x.run(1);
        Check.same("keep", x.keep(), 1);
        String kept = looks(x);
        int saved = x.count(11);
        Check.same("keep saves no state", saved, 3);
        x.run(2);
        x.out(3);
        x.set(4, 77);
        type(x, "5");
        Check.same("goBack", x.goBack(), 1);
        Check.same("as it was", looks(x), kept);
        Check.same("goBack leaves the buffer", x.clearBuffer(), 1);
        Check.same("goBack saves", x.count(11), 6);
        x.run(1);
        x.goBack();
        Check.same("the snapshot stays", looks(x), kept);
        x.undo();
        Check.same("goBack undone", x.count(0), 2);
        x.undo();
        x.undo();
        Check.same("the first goBack undone", x.setting(4), 77);
        Check.same("keep anew", x.keep(), 3);
        x.tip(7);
        x.goBack();
        Check.same("the later snapshot", x.count(0), 3);
        Check.same("with its can", x.can(7, 0), 6);
        DrawnSlivers y = new DrawnSlivers();
        Check.badState("goBack without", y::goBack);
        Check.same("nothing saved", y.count(11), 0);
        Check.same("keep at first", y.keep(), 0);
        put(y, 0, "1");
        y.undo();
        Check.same("undo leaves the snapshot", y.goBack(), 0);
    }

    private static String slivers(DrawnSlivers x) {
        return x.count(7) + ":" + sliver(x, 0) + ";" + sliver(x, 1) + ";" + sliver(x, 2);
    }

    private static void undo() {
        DrawnSlivers x = new DrawnSlivers();
        Check.badState("undo of nothing", x::undo);
        String[] states = new String[10];
        for (int i = 0; i < 8; i++) {
            states[i] = slivers(x);
            put(x, i % 3, Integer.toString(i + 1));
            Check.same("saved " + i, x.count(11), Math.min(6, i + 1));
        }
        for (int left = 5; left >= 0; left--) {
            Check.same("undo leaves " + left, x.undo(), left);
            Check.same("restored " + left, slivers(x), states[left + 2]);
        }
        Check.badState("the oldest are dropped", x::undo);
        x.tip(0);
        Check.same("saved anew", x.count(11), 1);
        Check.same("undo anew", x.undo(), 0);
        Check.same("the tipped one is back", slivers(x), states[2]);

        DrawnSlivers y = fed("999,20,20");
        y.run(9);
        String stopped = looks(y);
        y.clear();
        y.run(9);
        y.set(0, 3);
        y.out(2);
        for (int i = 0; i < 4; i++) {
            y.undo();
        }
        Check.same("all is restored", looks(y), stopped);
        y.undo();
        Check.same("the lap is undone", y.count(3) + y.count(5) + y.count(6), 0);
        Check.same("the step is undone", y.count(0) + y.count(4) + y.count(10), 0);
        Check.same("the metre is back", sliver(y, 0), "999,20,20");
    }

    private static void can() {
        DrawnSlivers x = new DrawnSlivers();
        put(x, 3, "30,10,25*2,40");
        x.feed(8);
        int[] due = {5, 130, 10, 40, 30, 20 + 15 + 0 + 15, 1, 30};
        int[] empty = {0, 0, -1, -1, 0, 0, 0, -1};
        for (int what = 0; what < 8; what++) {
            Check.same("can(3, " + what + ")", x.can(3, what), due[what]);
            Check.same("can(0, " + what + ")", x.can(0, what), empty[what]);
            Check.same("can(7, " + what + ")", x.can(7, what), empty[what]);
        }
        x.feed(1);
        Check.same("an empty one is fed", x.can(0, 6), 1);
        Check.same("can 3 is not", x.can(3, 6), 0);
        put(x, 5, "12");
        int[] single = {1, 12, 12, 12, 0, 0, 0, 12};
        for (int what = 0; what < 8; what++) {
            Check.same("single can(5, " + what + ")", x.can(5, what), single[what]);
        }
        for (int wrong : new int[] {-1, 8, LOW, HIGH}) {
            Check.noCan("can(" + wrong + ", 0)", () -> x.can(wrong, 0));
            Check.badArgument("can(0, " + wrong + ")", () -> x.can(0, wrong));
            Check.noCan("no can ahead of no what " + wrong, () -> x.can(wrong, wrong));
        }
    }

    private static void metre() {
        DrawnSlivers x = new DrawnSlivers();
        put(x, 0, "5*40");
        put(x, 1, "7,8,9");
        Check.same("front", x.metre(1, 0), 7);
        Check.same("back", x.metre(1, 2), 9);
        Check.same("behind the back", x.metre(1, 3), -1);
        Check.same("the 40th", x.metre(0, 39), 5);
        Check.same("the 41st", x.metre(0, 40), -1);
        Check.same("far", x.metre(0, HIGH), -1);
        Check.same("far in the last can", x.metre(7, HIGH), -1);
        Check.same("empty", x.metre(2, 0), -1);
        for (int wrong : new int[] {-1, LOW}) {
            Check.badArgument("metre(0, " + wrong + ")", () -> x.metre(0, wrong));
        }
        for (int wrong : new int[] {-1, 8, LOW, HIGH}) {
            Check.noCan("metre(" + wrong + ", 0)", () -> x.metre(wrong, 0));
            Check.noCan("no can ahead of no metre " + wrong, () -> x.metre(wrong, -1));
        }
    }

    private static void feeler() {
        DrawnSlivers x = new DrawnSlivers();
        put(x, 0, "1,2,3,4,5,6,7,8,9");
        put(x, 1, "10*9");
        x.feed(3);
        x.run(3);
        Check.same("three", feelerOf(x), "13,12,11,-1,-1,-1,-1");
        x.run(4);
        Check.same("seven", feelerOf(x), "17,16,15,14,13,12,11");
        x.run(2);
        Check.same("the latest seven", feelerOf(x), "19,18,17,16,15,14,13");
        for (int wrong : new int[] {-1, 7, LOW, HIGH}) {
            Check.badArgument("feeler(" + wrong + ")", () -> x.feeler(wrong));
        }
        x.feed(4);
        put(x, 2, "6");
        x.run(1);
        Check.same("anew", feelerOf(x), "6,-1,-1,-1,-1,-1,-1");
    }

    private static void count() {
        DrawnSlivers x = new DrawnSlivers();
        put(x, 1, "20,45,999");
        put(x, 2, "30*3");
        x.feed(6);
        x.out(0);
        x.run(9);
        int[] due = {3, 6, 0, 1, 8, 8, 1029, 1154, 125, 125, 3 + 4, 5};
        for (int what = 0; what < 12; what++) {
            Check.same("count(" + what + ")", x.count(what), due[what]);
        }
        x.tip(0);
        Check.same("waste with the tipped", x.count(6), 1154);
        Check.same("nothing left, told metre by metre", x.count(8), 0);
        Check.same("nothing left, told by sums", x.count(9), 0);
        Check.same("came out stays", x.count(10), 7);
        Check.same("lapped stays", x.count(5), 8);
        for (int wrong : new int[] {-1, 12, LOW, HIGH}) {
            Check.badArgument("count(" + wrong + ")", () -> x.count(wrong));
        }
    }

    private static void setting() {
        DrawnSlivers x = new DrawnSlivers();
        x.set(2, 33);
        int[] due = {0, 4, 33, 1, 60};
        for (int setting = 0; setting < 5; setting++) {
            Check.same("setting(" + setting + ")", x.setting(setting), due[setting]);
        }
        for (int wrong : new int[] {-1, 5, LOW, HIGH}) {
            Check.noCan("setting(" + wrong + ")", () -> x.setting(wrong));
        }
    }

    private static void why() {
        DrawnSlivers x = fed("999");
        Check.same("can be", x.why(), 0);
        x.run(1);
        x.feed(0);
        Check.same("stopped ahead of nothing fed", x.why(), 1);
        x.clear();
        Check.same("nothing fed", x.why(), 2);
        x.feed(128);
        Check.same("taker fed ahead of empty", x.why(), 3);
        x.feed(3);
        put(x, 0, "60*40");
        put(x, 7, "1*40");
        Check.same("one empty ahead of no room", x.why(), 4);
        put(x, 1, "60");
        Check.same("no room", x.why(), 5);

        DrawnSlivers y = fed("999*2");
        put(y, 7, "1*33");
        Check.same("no room though all would lap", y.why(), 5);
        y.tip(7);
        put(y, 7, "1*32");
        Check.same("just room", y.why(), 0);
        DrawnSlivers z = fed("20,160");
        put(z, 7, "1*34");
        z.set(0, 1);
        Check.same("the draft without the feeler finds room", z.why(), 0);
        z.run(1);
        Check.same("the lagged draft is 1", z.why(), 0);
        z.set(0, 0);
        Check.same("that of this step is 8", z.why(), 5);
    }

    private static void ifRun() {
        DrawnSlivers x = fed("20,45,30,999,20");
        int[] due = {4, 8, 3 + 1 + 7, 999, 1};
        for (int what = 0; what < 5; what++) {
            Check.same("ifRun(10, " + what + ")", x.ifRun(10, what), due[what]);
        }
        int[] dueOfTwo = {2, 3, 3 + 1, 0, 0};
        for (int what = 0; what < 5; what++) {
            Check.same("ifRun(2, " + what + ")", x.ifRun(2, what), dueOfTwo[what]);
        }
        x.tip(1);
        x.run(10);
        x.clear();
        int[] dueThen = {1, 8, 11 + 5, 0, 4};
        for (int what = 0; what < 5; what++) {
            Check.same("then ifRun(40, " + what + ")", x.ifRun(40, what), dueThen[what]);
        }
        DrawnSlivers y = new DrawnSlivers();
        int[] dueOfNone = {0, 0, 0, 0, 2};
        for (int what = 0; what < 5; what++) {
            Check.same("none ifRun(1, " + what + ")", y.ifRun(1, what), dueOfNone[what]);
        }
        for (int wrong : new int[] {0, -1, 41, LOW, HIGH}) {
            Check.badArgument("ifRun(" + wrong + ", 0)", () -> y.ifRun(wrong, 0));
        }
        for (int wrong : new int[] {-1, 5, LOW, HIGH}) {
            Check.badArgument("ifRun(1, " + wrong + ")", () -> y.ifRun(1, wrong));
        }
    }

    /** The lag that the document asks for, found by real runs. */
    private static int lagByRuns(DrawnSlivers x, int steps) {
        int best = -1;
        int fewest = -1;
        for (int lag = 0; lag <= 6; lag++) {
            x.set(0, lag);
            x.run(steps);
            int then = x.can(x.count(2), 5);
            x.undo();
            x.undo();
            if (best < 0 || then < fewest) {
                best = lag;
                fewest = then;
            }
        }
        return best;
    }

    private static void bestLag() {
        Check.same("even ones: the least", fed("60*9").bestLag(5), 0);
        DrawnSlivers x = fed("40,80,40,80,40,80,40,80,40,80,40,80");
        x.run(2);
        x.set(0, 3);
        Check.same("no lag is best", x.bestLag(10), 0);
        DrawnSlivers late = fed("80,40,30,60,30,60");
        late.set(1, 2);
        Check.same("a lag is best", late.bestLag(4), lagByRuns(late, 4));
        Check.same("lag stays", late.setting(0), 0);
        // What is drawn with setting 1 stays at 40, as the can has it; what the feeler tells is halved.
        DrawnSlivers one = fed("40*3");
        one.set(1, 1);
        one.set(2, 20);
        put(one, 7, "40");
        Check.same("lag 1 keeps the first metre whole", one.bestLag(1), 1);
        Check.same("by runs too", lagByRuns(one, 1), 1);
        Check.same("lag 2 keeps two whole", one.bestLag(2), 2);
        Check.same("lag 3 keeps three whole", one.bestLag(3), 3);
        put(one, 0, "40*7");
        Check.same("lag 6 keeps six whole", one.bestLag(6), 6);
        one.set(3, 0);
        Check.same("without the feeler all are the same", one.bestLag(6), 0);
        Check.same("empty", new DrawnSlivers().bestLag(40), 0);
        for (int wrong : new int[] {0, -1, 41, LOW, HIGH}) {
            Check.badArgument("bestLag(" + wrong + ")", () -> one.bestLag(wrong));
        }
    }

    private static void bestFeed() {
        DrawnSlivers x = new DrawnSlivers();
        Check.same("no cans", x.bestFeed(1), -1);
        put(x, 0, "20,1");
        put(x, 1, "40");
        put(x, 2, "40");
        put(x, 3, "90");
        put(x, 7, "80");
        Check.same("one: 90 is the nearest to 80", x.bestFeed(1), 8);
        Check.same("two: 40 and 40", x.bestFeed(2), 6);
        Check.same("three: the least of the nearest", x.bestFeed(3), 7);
        Check.same("four", x.bestFeed(4), 15);
        Check.same("five are not there, as 7 takes", x.bestFeed(5), -1);
        x.out(6);
        Check.same("80 of can 7", x.bestFeed(1), 128);
        Check.same("five are there", x.bestFeed(5), 128 + 15);
        x.set(1, 1);
        x.set(2, 30);
        Check.same("20 and 40 differ the same: the least mask", x.bestFeed(1), 1);
        x.set(1, 8);
        x.set(2, 99);
        Check.same("all are too light", x.bestFeed(2), 128 + 8);
        Check.same("cans that are fed count not", x.feed(255), 0);
        Check.same("as before", x.bestFeed(2), 128 + 8);
        DrawnSlivers y = new DrawnSlivers();
        for (int can = 0; can < 7; can++) {
            put(y, can, "13");
        }
        Check.same("six of seven", y.bestFeed(6), 63);
        y.out(0);
        Check.same("just six", y.bestFeed(6), 126);
        put(y, 7, "0");
        Check.same("an empty weight is no empty can", y.bestFeed(6), 126);
        for (int wrong : new int[] {0, -1, 7, 8, LOW, HIGH}) {
            Check.badArgument("bestFeed(" + wrong + ")", () -> y.bestFeed(wrong));
        }
    }

    private static void mean() {
        DrawnSlivers x = new DrawnSlivers();
        put(x, 0, "1,0*2");
        put(x, 7, "999*40");
        put(x, 1, "0");
        Check.same("mean of a third", Double.doubleToLongBits(x.mean(0)), Double.doubleToLongBits(1.0 / 3));
        Check.same("mean of the heaviest", Double.doubleToLongBits(x.mean(7)), Double.doubleToLongBits(999.0));
        Check.same("mean of nothing", Double.doubleToLongBits(x.mean(1)), 0);
        Check.same("mean of an empty can", Double.doubleToLongBits(x.mean(2)), 0);
        for (int wrong : new int[] {-1, 8, LOW, HIGH}) {
            Check.noCan("mean(" + wrong + ")", () -> (long) x.mean(wrong));
        }
    }

    private static void wasteShare() {
        DrawnSlivers x = new DrawnSlivers();
        Check.same("nothing filled", Float.floatToIntBits(x.wasteShare()), 0);
        put(x, 0, "0*3");
        Check.same("no weight filled", Float.floatToIntBits(x.wasteShare()), 0);
        put(x, 1, "1");
        put(x, 2, "2");
        Check.same("nothing wasted", Float.floatToIntBits(x.wasteShare()), 0);
        x.tip(1);
        Check.same("a third", Float.floatToIntBits(x.wasteShare()), Float.floatToIntBits(1.0f / 3.0f));
        x.tip(2);
        Check.same("all", Float.floatToIntBits(x.wasteShare()), Float.floatToIntBits(1.0f));
    }

    private static long mix(long hash, long value) {
        return 31 * hash + value;
    }

    /** The digest made of what the looks answer; buffer is what the buffer should be. */
    private static long digestOf(DrawnSlivers x, boolean kept, String buffer) {
        long hash = 3697;
        for (int what = 0; what <= 11; what++) {
            hash = mix(hash, x.count(what));
        }
        for (int setting = 0; setting <= 4; setting++) {
            hash = mix(hash, x.setting(setting));
        }
        for (int can = 0; can < 8; can++) {
            for (int what = 0; what <= 7; what++) {
                hash = mix(hash, x.can(can, what));
            }
            int metres = x.can(can, 0);
            for (int metre = 0; metre < metres; metre++) {
                hash = mix(hash, x.metre(can, metre));
            }
            hash = mix(hash, Double.doubleToLongBits(x.mean(can)));
        }
        for (int ago = 0; ago <= 6; ago++) {
            hash = mix(hash, x.feeler(ago));
        }
        hash = mix(hash, x.why());
        for (int what = 0; what <= 4; what++) {
            hash = mix(hash, x.ifRun(10, what));
        }
        hash = mix(hash, x.bestLag(10));
        for (int many = 1; many <= 6; many++) {
            hash = mix(hash, x.bestFeed(many));
        }
        hash = mix(hash, Float.floatToIntBits(x.wasteShare()));
        hash = mix(hash, kept ? 1 : 0);
        hash = mix(hash, buffer.length());
        for (int i = 0; i < buffer.length(); i++) {
            hash = mix(hash, buffer.charAt(i));
        }
        return hash;
    }

    private static DrawnSlivers readyToRun() {
        DrawnSlivers x = new DrawnSlivers();
        put(x, 0, "20,33*5,41,0*2,97");
        put(x, 1, "30*12,999");
        put(x, 2, "1,0*39");
        put(x, 5, "1,0*2");
        x.feed(3);
        x.set(0, 2);
        return x;
    }

    private static void digest() {
        DrawnSlivers first = new DrawnSlivers();
        Check.same("digest of a new one", first.digest(), digestOf(first, false, ""));
        DrawnSlivers ready = readyToRun();
        Check.same("digest of slivers", ready.digest(), digestOf(ready, false, ""));
        DrawnSlivers x = readyToRun();
        x.run(7);
        x.keep();
        x.tip(5);
        Check.same("digest with a snapshot", x.digest(), digestOf(x, true, ""));
        type(x, "12*3,~!");
        x.goBack();
        x.undo();
        x.undo();
        Check.same("digest behind undo", x.digest(), digestOf(x, true, "12*3,~!"));
        DrawnSlivers cleared = typed("12*3");
        Check.same("digest with a buffer", cleared.digest(), digestOf(cleared, false, "12*3"));
        cleared.clearBuffer();
        Check.same("digest of a cleared buffer", cleared.digest(), digestOf(cleared, false, ""));
        for (int metres = 1; metres <= 40; metres++) {
            for (int weight = 0; weight < 100; weight += 3) {
                DrawnSlivers y = new DrawnSlivers();
                put(y, 4, metres == 1 ? Integer.toString(weight) : weight + ",7" + (metres > 3 ? "*" + (metres - 2) : "") + ",1");
                put(y, 3, "1");
                y.tip(weight % 2 == 0 ? 3 : 4);
                if (y.digest() != digestOf(y, false, "")) {
                    Check.fail("digest of " + metres + " metres with " + weight);
                }
            }
        }
    }

    private static void looksChangeNothing() {
        DrawnSlivers x = fed("60,40,80,20,61");
        put(x, 1, "3*4");
        x.run(2);
        x.keep();
        type(x, "1*");
        long before = x.digest();
        for (int steps = 1; steps <= 40; steps++) {
            for (int what = 0; what <= 4; what++) {
                x.ifRun(steps, what);
            }
            x.bestLag(steps);
        }
        for (int many = 1; many <= 6; many++) {
            x.bestFeed(many);
        }
        x.why();
        x.firstError();
        Check.same("digest behind looks", x.digest(), before);
        Check.same("saved behind looks", x.count(11), 4);
    }

    private static void throwsChangeNothing() {
        DrawnSlivers x = fed("60,40,80,20,61");
        x.run(2);
        type(x, "1*");
        long before = x.digest();
        Check.badArgument("fill", () -> x.fill(0));
        Check.noCan("fill", () -> x.fill(8));
        Check.noCan("tip", () -> x.tip(8));
        Check.badArgument("feed", () -> x.feed(256));
        Check.noCan("out", () -> x.out(-1));
        Check.badArgument("run", () -> x.run(41));
        Check.badArgument("set", () -> x.set(1, 0));
        Check.badArgument("append", () -> x.append(127));
        Check.badState("goBack", x::goBack);
        Check.same("digest behind throws", x.digest(), before);
    }
}
