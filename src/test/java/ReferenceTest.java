/** Long runs of calls, the same each time, on the class and on the model side by side. */
public final class ReferenceTest {
    private static final int RUNS = 4000;
    /** The document promises nothing about an object behind its 512th call. */
    private static final int MOST_CALLS = 512;
    private static final int[] ODD = {-1, 8, 5, 7, 41, 256, 1000, Integer.MIN_VALUE, Integer.MAX_VALUE};

    private long seed;
    private final DrawnSlivers x = new DrawnSlivers();
    private final ReferenceModel y = new ReferenceModel();
    private final boolean heavy;
    private int calls = 0;
    private boolean wrong = false;

    private ReferenceTest(int run) {
        seed = 1000003L * run + 17;
        heavy = run % 3 == 0;
    }

    public static void main(String[] args) {
        for (int run = 0; run < RUNS; run++) {
            new ReferenceTest(run).go(run);
        }
        Check.end("ReferenceTest");
    }

    /** A number from 0 to less than the bound, by a fixed row of numbers. */
    private int next(int bound) {
        seed = seed * 6364136223846793005L + 1442695040888963407L;
        return (int) ((seed >>> 33) % bound);
    }

    private int orOdd(int usual) {
        return next(25) == 0 ? ODD[next(ODD.length)] : usual;
    }

    private void go(int run) {
        String where = "run " + run + ": ";
        while (calls < MOST_CALLS && !wrong) {
            same(where, next(26));
            if (next(4) == 0) {
                due(where + "digest()", x::digest, y::digest);
            }
        }
    }

    private void due(String what, Check.Call got, Check.Call due) {
        if (calls >= MOST_CALLS || wrong) {
            return;
        }
        calls++;
        String answer = Check.told(got);
        String wanted = Check.told(due);
        Check.same(what + " as call " + calls, answer, wanted);
        wrong = !answer.equals(wanted);
    }

    private void type(String where) {
        StringBuilder text = new StringBuilder();
        int parts = 1 + next(heavy ? 3 : 4);
        for (int part = 0; part < parts; part++) {
            text.append(part == 0 ? "" : ",").append(next(3) == 0 ? next(1000) : next(heavy ? 300 : 60));
            if (next(3) == 0) {
                text.append('*').append(next(12) == 0 ? next(45) : 2 + next(7));
            }
        }
        if (next(12) == 0) {
            text.insert(next(text.length() + 1), "0123456789*,,**a!~".charAt(next(18)));
        }
        for (int i = 0; i < text.length(); i++) {
            char code = text.charAt(i);
            due(where + "append(" + code + ")", () -> x.append(code), () -> y.append(code));
        }
        due(where + "firstError of " + text, x::firstError, y::firstError);
    }

    private void same(String where, int kind) {
        switch (kind) {
            case 0: case 1: case 2:
                type(where);
                int to = orOdd(next(8));
                due(where + "fill(" + to + ")", () -> x.fill(to), () -> y.fill(to));
                if (next(4) != 0) {
                    due(where + "clearBuffer()", x::clearBuffer, y::clearBuffer);
                }
                break;
            case 3:
                int tipped = orOdd(next(8));
                due(where + "tip(" + tipped + ")", () -> x.tip(tipped), () -> y.tip(tipped));
                break;
            case 4: case 5:
                int mask = orOdd(next(3) == 0 ? next(256) : usefulMask());
                due(where + "feed(" + mask + ")", () -> x.feed(mask), () -> y.feed(mask));
                break;
            case 6:
                int taker = orOdd(next(3) == 0 ? next(8) : 7);
                due(where + "out(" + taker + ")", () -> x.out(taker), () -> y.out(taker));
                break;
            case 7: case 8: case 9: case 10:
                makeReady(where);
                int steps = orOdd(1 + next(next(2) == 0 ? 4 : 40));
                due(where + "run(" + steps + ")", () -> x.run(steps), () -> y.run(steps));
                break;
            case 11:
                due(where + "clear()", x::clear, y::clear);
                break;
            case 12: case 13:
                int setting = orOdd(next(5));
                int value = orOdd(settingValue(setting));
                due(where + "set(" + setting + ", " + value + ")", () -> x.set(setting, value), () -> y.set(setting, value));
                break;
            case 14:
                int code = next(2) == 0 ? orOdd(next(140)) : 33 + next(94);
                due(where + "append(" + code + ")", () -> x.append(code), () -> y.append(code));
                break;
            case 15:
                due(where + "keep()", x::keep, y::keep);
                break;
            case 16:
                due(where + "goBack()", x::goBack, y::goBack);
                break;
            case 17: case 18:
                due(where + "undo()", x::undo, y::undo);
                break;
            default:
                sameLook(where, kind);
        }
    }

    /** Some cans that could be fed, as far as there are any. */
    private int usefulMask() {
        int mask = 0;
        for (int tries = 0; tries < 4; tries++) {
            int can = next(8);
            if (y.can(can, 0) > 0 && can != y.count(2)) {
                mask |= 1 << can;
            }
        }
        return mask;
    }

    /** Mostly takes away what keeps the frame from a step, as few runs would do anything otherwise. */
    private void makeReady(String where) {
        int why = next(5) == 0 ? 0 : y.why();
        if (why == 1) {
            due(where + "clear()", x::clear, y::clear);
        } else if (why == 5) {
            int full = y.count(2);
            due(where + "tip(" + full + ")", () -> x.tip(full), () -> y.tip(full));
        } else if (why > 1) {
            int mask = usefulMask();
            due(where + "feed(" + mask + ")", () -> x.feed(mask), () -> y.feed(mask));
        }
    }

    private int settingValue(int setting) {
        switch (setting) {
            case 0:
                return next(8);
            case 1:
                return next(10);
            case 2:
                return next(101);
            case 3:
                return next(6) == 0 ? 0 : 1;
            default:
                return heavy ? 200 + next(801) : 5 + next(120);
        }
    }

    private void sameLook(String where, int kind) {
        int a = orOdd(next(8));
        int b = orOdd(next(8));
        int steps = orOdd(1 + next(40));
        switch (kind) {
            case 19:
                due(where + "can(" + a + ", " + b + ")", () -> x.can(a, b), () -> y.can(a, b));
                break;
            case 20:
                int metre = orOdd(next(41));
                due(where + "metre(" + a + ", " + metre + ")", () -> x.metre(a, metre), () -> y.metre(a, metre));
                break;
            case 21:
                due(where + "feeler(" + a + ")", () -> x.feeler(a), () -> y.feeler(a));
                due(where + "setting(" + b + ")", () -> x.setting(b), () -> y.setting(b));
                break;
            case 22:
                int what = orOdd(next(12));
                due(where + "count(" + what + ")", () -> x.count(what), () -> y.count(what));
                due(where + "why()", x::why, y::why);
                break;
            case 23:
                due(where + "ifRun(" + steps + ", " + b + ")", () -> x.ifRun(steps, b), () -> y.ifRun(steps, b));
                break;
            case 24:
                due(where + "bestLag(" + steps + ")", () -> x.bestLag(steps), () -> y.bestLag(steps));
                due(where + "bestFeed(" + b + ")", () -> x.bestFeed(b), () -> y.bestFeed(b));
                break;
            default:
                due(where + "mean(" + a + ")", () -> Double.doubleToLongBits(x.mean(a)), () -> Double.doubleToLongBits(y.mean(a)));
                due(where + "wasteShare()", () -> Float.floatToIntBits(x.wasteShare()), () -> Float.floatToIntBits(y.wasteShare()));
        }
    }
}
