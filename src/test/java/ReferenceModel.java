import java.util.ArrayDeque;
import java.util.ArrayList;
import java.util.Deque;
import java.util.List;
import java.util.regex.Pattern;

/** The document told a second time, with the Java library and without care for speed. */
final class ReferenceModel {
    private static final Pattern SLIVER = Pattern.compile(
            "(0|[1-9][0-9]{0,2})(\\*([2-9]|[123][0-9]|40))?(,(0|[1-9][0-9]{0,2})(\\*([2-9]|[123][0-9]|40))?)*");
    private static final int[][] RANGES = {{0, 6}, {1, 8}, {1, 99}, {0, 1}, {10, 999}};

    private static final class State {
        List<List<Integer>> cans = new ArrayList<>();
        List<Integer> feeds = new ArrayList<>();
        int[] settings = {0, 4, 20, 1, 60};
        int fed;
        int taker = 7;
        boolean stopped;
        int steps;
        int draft;
        int lapped;
        int waste;
        int filled;
        int cameOut;

        State() {
            for (int can = 0; can < 8; can++) {
                cans.add(new ArrayList<>());
            }
        }

        State copy() {
            State s = new State();
            s.cans = new ArrayList<>();
            for (List<Integer> can : cans) {
                s.cans.add(new ArrayList<>(can));
            }
            s.feeds = new ArrayList<>(feeds);
            s.settings = settings.clone();
            s.fed = fed;
            s.taker = taker;
            s.stopped = stopped;
            s.steps = steps;
            s.draft = draft;
            s.lapped = lapped;
            s.waste = waste;
            s.filled = filled;
            s.cameOut = cameOut;
            return s;
        }

        List<Integer> fedCans() {
            List<Integer> all = new ArrayList<>();
            for (int can = 0; can < 8; can++) {
                if ((fed & 1 << can) != 0) {
                    all.add(can);
                }
            }
            return all;
        }

        /** 0 if the step is done, otherwise why it is not. */
        int step() {
            if (stopped) {
                return 1;
            }
            List<Integer> from = fedCans();
            if (from.isEmpty()) {
                return 2;
            }
            if (from.contains(taker)) {
                return 3;
            }
            int feed = 0;
            for (int can : from) {
                if (cans.get(can).isEmpty()) {
                    return 4;
                }
                feed += cans.get(can).get(0);
            }
            feeds.add(feed);
            int draftNow = settings[1];
            if (settings[3] == 1 && feeds.size() > settings[0]) {
                int told = feeds.get(feeds.size() - 1 - settings[0]);
                draftNow = (int) Math.floor((double) told / settings[2] + 0.5);
                draftNow = draftNow < 1 ? 1 : draftNow > 8 ? 8 : draftNow;
            }
            if (cans.get(taker).size() > 40 - draftNow) {
                feeds.remove(feeds.size() - 1);
                return 5;
            }
            for (int can : from) {
                cans.get(can).remove(0);
            }
            for (int metre = 0; metre < draftNow; metre++) {
                // What is left, shared among the metres that are left, rounded up: so the first ones are heavier.
                int left = draftNow - metre;
                int weight = (feed + left - 1) / left;
                feed -= weight;
                if (weight > settings[4]) {
                    stopped = true;
                    lapped++;
                    waste += weight;
                } else {
                    cameOut++;
                    cans.get(taker).add(weight);
                }
            }
            draft = draftNow;
            steps++;
            return 0;
        }

        int run(int most) {
            int done = 0;
            while (done < most && step() == 0) {
                done++;
            }
            return done;
        }

        int can(int can, int what) {
            List<Integer> sliver = cans.get(can);
            boolean empty = sliver.isEmpty();
            switch (what) {
                case 0:
                    return sliver.size();
                case 1:
                    return sliver.stream().mapToInt(w -> w).sum();
                case 2:
                    return sliver.stream().mapToInt(w -> w).min().orElse(-1);
                case 3:
                    return sliver.stream().mapToInt(w -> w).max().orElse(-1);
                case 4:
                    return empty ? 0 : can(can, 3) - can(can, 2);
                case 5:
                    int sum = 0;
                    for (int i = 1; i < sliver.size(); i++) {
                        sum += Math.abs(sliver.get(i) - sliver.get(i - 1));
                    }
                    return sum;
                case 6:
                    return fedCans().contains(can) ? 1 : 0;
                default:
                    return empty ? -1 : sliver.get(0);
            }
        }
    }

    private State state = new State();
    private State snapshot;
    private final Deque<State> saved = new ArrayDeque<>();
    private String buffer = "";

    private void save() {
        saved.addLast(state.copy());
        if (saved.size() > 6) {
            saved.removeFirst();
        }
    }

    private static void needCan(int can) {
        if (can < 0 || can > 7) {
            throw new IndexOutOfBoundsException();
        }
    }

    private static void needRange(int value, int least, int most) {
        if (value < least || value > most) {
            throw new IllegalArgumentException();
        }
    }

    int fill(int can) {
        needCan(can);
        if (!SLIVER.matcher(buffer).matches()) {
            throw new IllegalArgumentException();
        }
        List<Integer> told = new ArrayList<>();
        for (String part : buffer.split(",")) {
            String[] numbers = part.split("\\*");
            int times = numbers.length == 2 ? Integer.parseInt(numbers[1]) : 1;
            for (int i = 0; i < times; i++) {
                told.add(Integer.parseInt(numbers[0]));
            }
        }
        if (state.cans.get(can).size() + told.size() > 40) {
            throw new IllegalStateException();
        }
        save();
        state.cans.get(can).addAll(told);
        for (int weight : told) {
            state.filled += weight;
        }
        buffer = "";
        return state.cans.get(can).size();
    }

    int tip(int can) {
        needCan(can);
        save();
        int metres = state.can(can, 0);
        state.waste += state.can(can, 1);
        state.cans.get(can).clear();
        return metres;
    }

    int feed(int cans) {
        needRange(cans, 0, 255);
        save();
        int before = state.fed;
        state.fed = cans;
        if (before != cans) {
            state.feeds.clear();
        }
        return before;
    }

    int out(int can) {
        needCan(can);
        save();
        int before = state.taker;
        state.taker = can;
        return before;
    }

    int run(int steps) {
        needRange(steps, 1, 40);
        save();
        return state.run(steps);
    }

    int clear() {
        save();
        int before = state.stopped ? 1 : 0;
        state.stopped = false;
        state.feeds.clear();
        return before;
    }

    int set(int setting, int value) {
        if (setting < 0 || setting > 4) {
            throw new IndexOutOfBoundsException();
        }
        needRange(value, RANGES[setting][0], RANGES[setting][1]);
        save();
        int before = state.settings[setting];
        state.settings[setting] = value;
        return before;
    }

    int append(int code) {
        needRange(code, 33, 126);
        if (buffer.length() == 60) {
            throw new IllegalStateException();
        }
        buffer += (char) code;
        return buffer.length();
    }

    int clearBuffer() {
        int before = buffer.length();
        buffer = "";
        return before;
    }

    int firstError() {
        for (int length = 1; length <= buffer.length(); length++) {
            if (!begins(buffer.substring(0, length))) {
                return length - 1;
            }
        }
        return buffer.length();
    }

    /** Whether some sliver as a text begins so: if none does with up to one more digit, none does. */
    private static boolean begins(String start) {
        if (SLIVER.matcher(start).matches()) {
            return true;
        }
        for (char next = '0'; next <= '9'; next++) {
            if (SLIVER.matcher(start + next).matches()) {
                return true;
            }
        }
        return false;
    }

    int keep() {
        snapshot = state.copy();
        return state.steps;
    }

    int goBack() {
        if (snapshot == null) {
            throw new IllegalStateException();
        }
        save();
        state = snapshot.copy();
        return state.steps;
    }

    int undo() {
        if (saved.isEmpty()) {
            throw new IllegalStateException();
        }
        state = saved.removeLast();
        return saved.size();
    }

    int can(int can, int what) {
        needCan(can);
        needRange(what, 0, 7);
        return state.can(can, what);
    }

    int metre(int can, int metre) {
        needCan(can);
        needRange(metre, 0, Integer.MAX_VALUE);
        List<Integer> sliver = state.cans.get(can);
        return metre < sliver.size() ? sliver.get(metre) : -1;
    }

    int feeler(int ago) {
        needRange(ago, 0, 6);
        int index = state.feeds.size() - 1 - ago;
        return index < 0 ? -1 : state.feeds.get(index);
    }

    int count(int what) {
        needRange(what, 0, 11);
        int inCans = 0;
        for (int can = 0; can < 8; can++) {
            inCans += state.can(can, 1);
        }
        int[] all = {state.steps, state.fed, state.taker, state.stopped ? 1 : 0, state.draft, state.lapped, state.waste,
            state.filled, inCans, state.filled - state.waste, state.cameOut, saved.size()};
        return all[what];
    }

    int setting(int setting) {
        if (setting < 0 || setting > 4) {
            throw new IndexOutOfBoundsException();
        }
        return state.settings[setting];
    }

    int why() {
        return state.copy().step();
    }

    int ifRun(int steps, int what) {
        needRange(steps, 1, 40);
        needRange(what, 0, 4);
        State then = state.copy();
        int done = then.run(steps);
        int[] all = {done, then.can(then.taker, 4), then.can(then.taker, 5), then.waste - state.waste, then.copy().step()};
        return all[what];
    }

    int bestLag(int steps) {
        needRange(steps, 1, 40);
        int[] stepsThen = new int[7];
        for (int lag = 0; lag < 7; lag++) {
            State then = state.copy();
            then.settings[0] = lag;
            then.run(steps);
            stepsThen[lag] = then.can(then.taker, 5);
        }
        int best = 0;
        for (int lag = 6; lag >= 0; lag--) {
            best = stepsThen[lag] <= stepsThen[best] ? lag : best;
        }
        for (int lag = 0; lag < best; lag++) {
            if (stepsThen[lag] <= stepsThen[best]) {
                throw new AssertionError("the model is wrong");
            }
        }
        return best;
    }

    int bestFeed(int many) {
        needRange(many, 1, 6);
        int best = -1;
        int least = 0;
        for (int mask = 255; mask > 0; mask--) {
            int sum = 0;
            boolean fits = Integer.bitCount(mask) == many;
            for (int can = 0; can < 8; can++) {
                if ((mask & 1 << can) != 0) {
                    fits = fits && can != state.taker && !state.cans.get(can).isEmpty();
                    sum += Math.max(0, state.can(can, 7));
                }
            }
            int difference = Math.abs(sum - state.settings[1] * state.settings[2]);
            if (fits && (best < 0 || difference <= least)) {
                best = mask;
                least = difference;
            }
        }
        return best;
    }

    double mean(int can) {
        needCan(can);
        return state.can(can, 0) == 0 ? 0.0 : (double) state.can(can, 1) / state.can(can, 0);
    }

    float wasteShare() {
        return state.filled == 0 ? 0.0f : (float) state.waste / state.filled;
    }

    long digest() {
        List<Long> values = new ArrayList<>();
        for (int what = 0; what <= 11; what++) {
            values.add((long) count(what));
        }
        for (int value : state.settings) {
            values.add((long) value);
        }
        for (int can = 0; can < 8; can++) {
            for (int what = 0; what <= 7; what++) {
                values.add((long) can(can, what));
            }
            for (int weight : state.cans.get(can)) {
                values.add((long) weight);
            }
            values.add(Double.doubleToLongBits(mean(can)));
        }
        for (int ago = 0; ago <= 6; ago++) {
            values.add((long) feeler(ago));
        }
        values.add((long) why());
        for (int what = 0; what <= 4; what++) {
            values.add((long) ifRun(10, what));
        }
        values.add((long) bestLag(10));
        for (int many = 1; many <= 6; many++) {
            values.add((long) bestFeed(many));
        }
        values.add((long) Float.floatToIntBits(wasteShare()));
        values.add(snapshot == null ? 0L : 1L);
        values.add((long) buffer.length());
        for (char code : buffer.toCharArray()) {
            values.add((long) code);
        }
        long hash = 3697;
        for (long value : values) {
            hash = 31 * hash + value;
        }
        return hash;
    }
}
