/** A draw frame that evens slivers. The promises it keeps stand in ../shared/DOC.md. */
public final class DrawnSlivers {

    /** There is nothing to return. */
    public static final int NONE = -1;

    private static final int CANS = 8;
    private static final int ROOM = 40;
    private static final int MASKS = 256;
    private static final int MOST_STEPS = 40;
    private static final int MOST_LAG = 6;
    private static final int MOST_DRAFT = 8;
    private static final int MOST_FED = 6;
    private static final int MOST_SAVED = 6;
    private static final int MOST_TEXT = 60;
    private static final int MOST_WEIGHT = 999;
    private static final int LEAST_TIMES = 2;
    private static final int MOST_TIMES = 40;

    private static final int LAG = 0;
    private static final int DRAFT = 1;
    private static final int WANTED = 2;
    private static final int EVENS = 3;
    private static final int LAP = 4;
    private static final int SETTINGS = 5;
    private static final int[] LEAST_VALUE = {0, 1, 1, 0, 10};
    private static final int[] MOST_VALUE = {6, 8, 99, 1, 999};

    private static final int CAN_NUMBERS = 8;
    private static final int COUNTS = 12;
    private static final int FORECASTS = 5;

    private static final long DIGEST_START = 3697L;
    private static final int DIGEST_STEPS = 10;
    /** More halvings or doublings than any share needs to come between 1 and 2. */
    private static final int MOST_SCALINGS = 64;

    private final Frame frame;
    private final Frame snapshot;
    /** What would be is tried out here, so that no look makes a new frame. */
    private final Frame trial;
    private final History history;
    private final SliverText text;
    private boolean hasSnapshot;

    public DrawnSlivers() {
        frame = new Frame();
        snapshot = new Frame();
        trial = new Frame();
        history = new History();
        text = new SliverText();
        hasSnapshot = false;
    }

    // ---- cans

    public int fill(int can) throws IndexOutOfBoundsException, IllegalArgumentException, IllegalStateException {
        if (!isCan(can)) {
            throw new IndexOutOfBoundsException("no such can");
        }
        if (!text.readWhole()) {
            throw new IllegalArgumentException("the buffer is not a complete sliver");
        }
        if (frame.cans.sizeOf(can) + text.metresTold() > ROOM) {
            throw new IllegalStateException("the can has no room for the sliver");
        }
        history.save(frame);
        int parts = text.partCount();
        for (int part = 0; part < parts; part++) {
            frame.pour(can, text.partWeight(part), text.partTimes(part));
        }
        text.wipe();
        return frame.cans.sizeOf(can);
    }

    public int tip(int can) throws IndexOutOfBoundsException {
        if (!isCan(can)) {
            throw new IndexOutOfBoundsException("no such can");
        }
        history.save(frame);
        int metres = frame.cans.sizeOf(can);
        frame.waste += frame.cans.sumOf(can);
        frame.cans.makeEmpty(can);
        return metres;
    }

    public int feed(int cans) throws IllegalArgumentException {
        if (cans < 0 || cans >= MASKS) {
            throw new IllegalArgumentException("no mask of cans");
        }
        history.save(frame);
        int before = frame.fed;
        if (cans != before) {
            frame.feeler.forget();
        }
        frame.fed = cans;
        return before;
    }

    public int out(int can) throws IndexOutOfBoundsException {
        if (!isCan(can)) {
            throw new IndexOutOfBoundsException("no such can");
        }
        history.save(frame);
        int before = frame.taker;
        frame.taker = can;
        return before;
    }

    // ---- the frame

    public int run(int steps) throws IllegalArgumentException {
        if (!isRunLength(steps)) {
            throw new IllegalArgumentException("steps are 1 to 40");
        }
        history.save(frame);
        return frame.advance(steps);
    }

    public int clear() {
        history.save(frame);
        int before = frame.stopped ? 1 : 0;
        frame.stopped = false;
        frame.feeler.forget();
        return before;
    }

    public int set(int setting, int value) throws IndexOutOfBoundsException, IllegalArgumentException {
        if (!isSetting(setting)) {
            throw new IndexOutOfBoundsException("no such setting");
        }
        if (!isValue(setting, value)) {
            throw new IllegalArgumentException("no value of this setting");
        }
        history.save(frame);
        int before = frame.settingOf(setting);
        frame.changeSetting(setting, value);
        return before;
    }

    // ---- texts, the snapshot

    public int append(int code) throws IllegalArgumentException, IllegalStateException {
        if (code < 33 || code > 126) {
            throw new IllegalArgumentException("codes are 33 to 126");
        }
        if (text.isFull()) {
            throw new IllegalStateException("the buffer is full");
        }
        text.add(code);
        return text.length();
    }

    public int clearBuffer() {
        int before = text.length();
        text.wipe();
        return before;
    }

    public int firstError() {
        return text.readToError();
    }

    public int keep() {
        snapshot.copyFrom(frame);
        hasSnapshot = true;
        return frame.steps;
    }

    public int goBack() throws IllegalStateException {
        if (!hasSnapshot) {
            throw new IllegalStateException("there is no snapshot");
        }
        history.save(frame);
        frame.copyFrom(snapshot);
        return frame.steps;
    }

    public int undo() throws IllegalStateException {
        if (history.savedCount() == 0) {
            throw new IllegalStateException("there is no saved state");
        }
        history.restore(frame);
        return history.savedCount();
    }

    // ---- looks; nothing is changed

    public int can(int can, int what) throws IndexOutOfBoundsException, IllegalArgumentException {
        if (!isCan(can)) {
            throw new IndexOutOfBoundsException("no such can");
        }
        switch (what) {
            case 0:
                return frame.cans.sizeOf(can);
            case 1:
                return frame.cans.sumOf(can);
            case 2:
                return frame.cans.leastOf(can);
            case 3:
                return frame.cans.greatestOf(can);
            case 4:
                return frame.cans.spreadOf(can);
            case 5:
                return frame.cans.stepsOf(can);
            case 6:
                return frame.isFed(can) ? 1 : 0;
            case 7:
                return frame.cans.weightOf(can, 0);
            default:
                throw new IllegalArgumentException("what is 0 to 7");
        }
    }

    public int metre(int can, int metre) throws IndexOutOfBoundsException, IllegalArgumentException {
        if (!isCan(can)) {
            throw new IndexOutOfBoundsException("no such can");
        }
        if (metre < 0) {
            throw new IllegalArgumentException("metres are numbered from 0");
        }
        return frame.cans.weightOf(can, metre);
    }

    public int feeler(int ago) throws IllegalArgumentException {
        if (ago < 0 || ago > MOST_LAG) {
            throw new IllegalArgumentException("ago is 0 to 6");
        }
        return frame.feeler.feedOf(ago);
    }

    public int count(int what) throws IllegalArgumentException {
        switch (what) {
            case 0:
                return frame.steps;
            case 1:
                return frame.fed;
            case 2:
                return frame.taker;
            case 3:
                return frame.stopped ? 1 : 0;
            case 4:
                return frame.latestDraft;
            case 5:
                return frame.lapped;
            case 6:
                return frame.waste;
            case 7:
                return frame.filled;
            case 8:
                return frame.cans.sumOfAll();
            case 9:
                return frame.filled - frame.waste;
            case 10:
                return frame.cameOut;
            case 11:
                return history.savedCount();
            default:
                throw new IllegalArgumentException("what is 0 to 11");
        }
    }

    public int setting(int setting) throws IndexOutOfBoundsException {
        if (!isSetting(setting)) {
            throw new IndexOutOfBoundsException("no such setting");
        }
        return frame.settingOf(setting);
    }

    public int why() {
        return frame.whyNot();
    }

    // ---- what would be; nothing is changed

    public int ifRun(int steps, int what) throws IllegalArgumentException {
        if (!isRunLength(steps) || what < 0 || what >= FORECASTS) {
            throw new IllegalArgumentException("steps are 1 to 40, what is 0 to 4");
        }
        trial.copyFrom(frame);
        int done = trial.advance(steps);
        switch (what) {
            case 0:
                return done;
            case 1:
                return trial.cans.spreadOf(trial.taker);
            case 2:
                return trial.cans.stepsOf(trial.taker);
            case 3:
                return trial.waste - frame.waste;
            default:
                return trial.whyNot();
        }
    }

    public int bestLag(int steps) throws IllegalArgumentException {
        if (!isRunLength(steps)) {
            throw new IllegalArgumentException("steps are 1 to 40");
        }
        int best = 0;
        int fewest = 0;
        for (int lag = 0; lag <= MOST_LAG; lag++) {
            trial.copyFrom(frame);
            trial.changeSetting(LAG, lag);
            trial.advance(steps);
            int stepsThen = trial.cans.stepsOf(trial.taker);
            if (lag == 0 || stepsThen < fewest) {
                fewest = stepsThen;
                best = lag;
            }
        }
        return best;
    }

    public int bestFeed(int many) throws IllegalArgumentException {
        if (many < 1 || many > MOST_FED) {
            throw new IllegalArgumentException("many is 1 to 6");
        }
        int wanted = frame.settingOf(DRAFT) * frame.settingOf(WANTED);
        int unfit = ~frame.cans.maskOfFilled() | (1 << frame.taker);
        int best = NONE;
        int least = 0;
        for (int mask = 1; mask < MASKS; mask++) {
            if ((mask & unfit) == 0 && Integer.bitCount(mask) == many) {
                int difference = Math.abs(frame.cans.frontsOf(mask) - wanted);
                if (best == NONE || difference < least) {
                    least = difference;
                    best = mask;
                }
            }
        }
        return best;
    }

    public double mean(int can) throws IndexOutOfBoundsException {
        if (!isCan(can)) {
            throw new IndexOutOfBoundsException("no such can");
        }
        int metres = frame.cans.sizeOf(can);
        return metres == 0 ? 0.0 : (double) frame.cans.sumOf(can) / (double) metres;
    }

    public float wasteShare() {
        return frame.filled == 0 ? 0.0f : (float) frame.waste / (float) frame.filled;
    }

    public long digest() {
        long hash = DIGEST_START;
        for (int what = 0; what < COUNTS; what++) {
            hash = mix(hash, count(what));
        }
        for (int setting = 0; setting < SETTINGS; setting++) {
            hash = mix(hash, setting(setting));
        }
        for (int can = 0; can < CANS; can++) {
            hash = mixCan(hash, can);
        }
        for (int ago = 0; ago <= MOST_LAG; ago++) {
            hash = mix(hash, feeler(ago));
        }
        hash = mix(hash, why());
        for (int what = 0; what < FORECASTS; what++) {
            hash = mix(hash, ifRun(DIGEST_STEPS, what));
        }
        hash = mix(hash, bestLag(DIGEST_STEPS));
        for (int many = 1; many <= MOST_FED; many++) {
            hash = mix(hash, bestFeed(many));
        }
        hash = mix(hash, bitsOfFloat(wasteShare()));
        hash = mix(hash, hasSnapshot ? 1 : 0);
        int length = text.length();
        hash = mix(hash, length);
        for (int index = 0; index < length; index++) {
            hash = mix(hash, text.codeAt(index));
        }
        return hash;
    }

    private long mixCan(long start, int can) {
        long hash = start;
        for (int what = 0; what < CAN_NUMBERS; what++) {
            hash = mix(hash, can(can, what));
        }
        int metres = frame.cans.sizeOf(can);
        for (int metre = 0; metre < metres; metre++) {
            hash = mix(hash, frame.cans.weightOf(can, metre));
        }
        return mix(hash, bitsOfDouble(mean(can)));
    }

    private static long mix(long hash, long value) {
        return 31L * hash + value;
    }

    /** What Double.doubleToLongBits answers for 0.0 and for a mean, which is 1/40 to 999. */
    private static long bitsOfDouble(double share) {
        if (share <= 0.0) {
            return 0L;
        }
        double scaled = share;
        long exponent = 1023L;
        for (int i = 0; i < MOST_SCALINGS && scaled >= 2.0; i++) {
            scaled = scaled / 2.0;
            exponent++;
        }
        for (int i = 0; i < MOST_SCALINGS && scaled < 1.0; i++) {
            scaled = scaled * 2.0;
            exponent--;
        }
        // The fraction has 52 bits, as many as this power of 2 has zeros.
        long fraction = (long) ((scaled - 1.0) * 4503599627370496.0);
        return (exponent << 52) + fraction;
    }

    /** What Float.floatToIntBits answers for 0.0f and for a share of waste, which is at most 1. */
    private static int bitsOfFloat(float share) {
        if (share <= 0.0f) {
            return 0;
        }
        float scaled = share;
        int exponent = 127;
        for (int i = 0; i < MOST_SCALINGS && scaled < 1.0f; i++) {
            scaled = scaled * 2.0f;
            exponent--;
        }
        // The fraction has 23 bits, as many as this power of 2 has zeros.
        int fraction = (int) ((scaled - 1.0f) * 8388608.0f);
        return (exponent << 23) + fraction;
    }

    private static boolean isCan(int can) {
        return can >= 0 && can < CANS;
    }

    private static boolean isSetting(int setting) {
        return setting >= 0 && setting < SETTINGS;
    }

    private static boolean isValue(int setting, int value) {
        return setting >= 0 && setting < LEAST_VALUE.length && setting < MOST_VALUE.length
                && value >= LEAST_VALUE[setting] && value <= MOST_VALUE[setting];
    }

    private static boolean isRunLength(int steps) {
        return steps >= 1 && steps <= MOST_STEPS;
    }

    /** All that undo() restores: the cans, the feeler, the settings and what is counted so far. */
    private static final class Frame {
        final Cans cans = new Cans();
        final Feeler feeler = new Feeler();
        final int[] settings = {0, 4, 20, 1, 60};
        int fed = 0;
        int taker = 7;
        boolean stopped = false;
        int steps = 0;
        int latestDraft = 0;
        int lapped = 0;
        int waste = 0;
        int filled = 0;
        int cameOut = 0;

        void copyFrom(Frame other) {
            cans.copyFrom(other.cans);
            feeler.copyFrom(other.feeler);
            System.arraycopy(other.settings, 0, settings, 0, Math.min(other.settings.length, settings.length));
            fed = other.fed;
            taker = other.taker;
            stopped = other.stopped;
            steps = other.steps;
            latestDraft = other.latestDraft;
            lapped = other.lapped;
            waste = other.waste;
            filled = other.filled;
            cameOut = other.cameOut;
        }

        int settingOf(int setting) {
            return setting >= 0 && setting < settings.length ? settings[setting] : NONE;
        }

        void changeSetting(int setting, int value) {
            if (setting >= 0 && setting < settings.length) {
                settings[setting] = value;
            }
        }

        boolean isFed(int can) {
            return ((fed >> can) & 1) == 1;
        }

        void pour(int can, int weight, int times) {
            for (int i = 0; i < times; i++) {
                cans.addBack(can, weight);
                filled += weight;
            }
        }

        int whyNot() {
            if (stopped) {
                return 1;
            }
            if (fed == 0) {
                return 2;
            }
            if (isFed(taker)) {
                return 3;
            }
            if ((fed & ~cans.maskOfFilled()) != 0) {
                return 4;
            }
            int draft = draftFor(cans.frontsOf(fed));
            return cans.sizeOf(taker) + draft > ROOM ? 5 : 0;
        }

        /** Answers how many steps are done. */
        int advance(int most) {
            for (int done = 0; done < most; done++) {
                if (whyNot() != 0) {
                    return done;
                }
                makeStep();
            }
            return most;
        }

        /** The draft of a step with this feed, asked ahead of the feeler's remembering it. */
        int draftFor(int feed) {
            int lag = settingOf(LAG);
            int told = lag == 0 ? feed : feeler.feedOf(lag - 1);
            int wanted = settingOf(WANTED);
            if (settingOf(EVENS) == 0 || told == NONE || wanted < 1) {
                return settingOf(DRAFT);
            }
            // Half of the divisor is added ahead: so a half is rounded up.
            int nearest = (told + wanted / 2) / wanted;
            return Math.max(1, Math.min(MOST_DRAFT, nearest));
        }

        void makeStep() {
            int feed = cans.frontsOf(fed);
            int draft = draftFor(feed);
            if (draft < 1) {
                return;
            }
            cans.dropFronts(fed);
            feeler.remember(feed);
            int each = feed / draft;
            int heavier = feed % draft;
            for (int i = 0; i < draft; i++) {
                layDown(i < heavier ? each + 1 : each);
            }
            steps++;
            latestDraft = draft;
        }

        void layDown(int weight) {
            if (weight > settingOf(LAP)) {
                stopped = true;
                lapped++;
                waste += weight;
            } else {
                cans.addBack(taker, weight);
                cameOut++;
            }
        }
    }

    /** The slivers of all cans in one row: those of can k stand from k * ROOM on, the front metre first. */
    private static final class Cans {
        final int[] weights = new int[CANS * ROOM];
        final int[] sizes = new int[CANS];

        void copyFrom(Cans other) {
            System.arraycopy(other.weights, 0, weights, 0, Math.min(other.weights.length, weights.length));
            System.arraycopy(other.sizes, 0, sizes, 0, Math.min(other.sizes.length, sizes.length));
        }

        int sizeOf(int can) {
            return can >= 0 && can < sizes.length ? sizes[can] : 0;
        }

        int weightOf(int can, int metre) {
            if (metre < 0 || metre >= sizeOf(can)) {
                return NONE;
            }
            int place = can * ROOM + metre;
            return place >= 0 && place < weights.length ? weights[place] : NONE;
        }

        int sumOf(int can) {
            int metres = sizeOf(can);
            int sum = 0;
            for (int metre = 0; metre < metres; metre++) {
                sum += weightOf(can, metre);
            }
            return sum;
        }

        int sumOfAll() {
            int sum = 0;
            for (int can = 0; can < CANS; can++) {
                sum += sumOf(can);
            }
            return sum;
        }

        int leastOf(int can) {
            int metres = sizeOf(can);
            int least = weightOf(can, 0);
            for (int metre = 1; metre < metres; metre++) {
                least = Math.min(least, weightOf(can, metre));
            }
            return least;
        }

        int greatestOf(int can) {
            int metres = sizeOf(can);
            int greatest = weightOf(can, 0);
            for (int metre = 1; metre < metres; metre++) {
                greatest = Math.max(greatest, weightOf(can, metre));
            }
            return greatest;
        }

        int spreadOf(int can) {
            return greatestOf(can) - leastOf(can);
        }

        int stepsOf(int can) {
            int metres = sizeOf(can);
            int steps = 0;
            for (int metre = 1; metre < metres; metre++) {
                steps += Math.abs(weightOf(can, metre) - weightOf(can, metre - 1));
            }
            return steps;
        }

        int maskOfFilled() {
            int mask = 0;
            for (int can = 0; can < sizes.length; can++) {
                if (sizes[can] > 0) {
                    mask |= 1 << can;
                }
            }
            return mask;
        }

        /** The front metres together of the cans of a mask, none of which is empty. */
        int frontsOf(int mask) {
            int sum = 0;
            for (int can = 0; can < CANS; can++) {
                if (((mask >> can) & 1) == 1) {
                    sum += weightOf(can, 0);
                }
            }
            return sum;
        }

        void dropFronts(int mask) {
            for (int can = 0; can < CANS; can++) {
                if (((mask >> can) & 1) == 1) {
                    dropFront(can);
                }
            }
        }

        void dropFront(int can) {
            int front = can * ROOM;
            int metres = sizeOf(can);
            if (metres < 1 || can < 0 || can >= sizes.length || front < 0 || front + metres > weights.length) {
                return;
            }
            System.arraycopy(weights, front + 1, weights, front, metres - 1);
            sizes[can] = metres - 1;
        }

        void addBack(int can, int weight) {
            int metres = sizeOf(can);
            int place = can * ROOM + metres;
            if (can >= 0 && can < sizes.length && metres < ROOM && place >= 0 && place < weights.length) {
                weights[place] = weight;
                sizes[can] = metres + 1;
            }
        }

        void makeEmpty(int can) {
            if (can >= 0 && can < sizes.length) {
                sizes[can] = 0;
            }
        }
    }

    /** The latest feeds, as many as the longest lag can ask for; that of the latest step stands first. */
    private static final class Feeler {
        final int[] feeds = new int[MOST_LAG + 1];
        int remembered = 0;

        void copyFrom(Feeler other) {
            System.arraycopy(other.feeds, 0, feeds, 0, Math.min(other.feeds.length, feeds.length));
            remembered = other.remembered;
        }

        void remember(int feed) {
            int newer = feed;
            for (int ago = 0; ago < feeds.length; ago++) {
                int older = feeds[ago];
                feeds[ago] = newer;
                newer = older;
            }
            remembered = Math.min(remembered + 1, feeds.length);
        }

        void forget() {
            remembered = 0;
        }

        int feedOf(int ago) {
            return ago >= 0 && ago < remembered && ago < feeds.length ? feeds[ago] : NONE;
        }
    }

    /** The saved states, in a ring whose rows are used again. */
    private static final class History {
        final Frame[] rows = new Frame[MOST_SAVED];
        int oldest = 0;
        int saved = 0;

        History() {
            for (int i = 0; i < rows.length; i++) {
                rows[i] = new Frame();
            }
        }

        int savedCount() {
            return saved;
        }

        void save(Frame frame) {
            if (saved == MOST_SAVED) {
                oldest = (oldest + 1) % MOST_SAVED;
                saved--;
            }
            Frame row = rowAt((oldest + saved) % MOST_SAVED);
            if (row != null) {
                row.copyFrom(frame);
                saved++;
            }
        }

        void restore(Frame frame) {
            if (saved == 0) {
                return;
            }
            Frame row = rowAt((oldest + saved - 1) % MOST_SAVED);
            if (row != null) {
                frame.copyFrom(row);
                saved--;
            }
        }

        Frame rowAt(int index) {
            return index >= 0 && index < rows.length ? rows[index] : null;
        }
    }

    /** The buffer, and the sliver that it tells. */
    private static final class SliverText {
        final int[] codes = new int[MOST_TEXT];
        int length = 0;

        final int[] partWeights = new int[MOST_TEXT];
        final int[] partTimes = new int[MOST_TEXT];
        int parts = 0;

        /** Where the reading stands: in the weight of a part or in its times, and what is read of that number. */
        boolean inTimes = false;
        int digits = 0;
        int value = 0;
        int weight = 0;

        int length() {
            return length;
        }

        boolean isFull() {
            return length >= MOST_TEXT;
        }

        int codeAt(int index) {
            return index >= 0 && index < length && index < codes.length ? codes[index] : NONE;
        }

        void add(int code) {
            if (length >= 0 && length < codes.length) {
                codes[length] = code;
                length++;
            }
        }

        void wipe() {
            length = 0;
        }

        int partCount() {
            return parts;
        }

        int partWeight(int part) {
            return part >= 0 && part < partWeights.length ? partWeights[part] : 0;
        }

        int partTimes(int part) {
            return part >= 0 && part < partTimes.length ? partTimes[part] : 0;
        }

        int metresTold() {
            int metres = 0;
            for (int part = 0; part < parts; part++) {
                metres += partTimes(part);
            }
            return metres;
        }

        /** Answers whether the buffer is a complete sliver; its parts can be asked for then. */
        boolean readWhole() {
            if (readToError() < length || !mayEndPart()) {
                return false;
            }
            endPart();
            return true;
        }

        /** Answers the index of the first syntax error, the length if there is none. */
        int readToError() {
            parts = 0;
            beginPart();
            int end = length;
            for (int index = 0; index < end; index++) {
                if (!accepts(codeAt(index))) {
                    return index;
                }
            }
            return end;
        }

        boolean accepts(int code) {
            if (code >= '0' && code <= '9') {
                return inTimes ? acceptsOfTimes(code - '0') : acceptsOfWeight(code - '0');
            }
            if (code == '*' && !inTimes && digits > 0) {
                weight = value;
                inTimes = true;
                digits = 0;
                value = 0;
                return true;
            }
            if (code == ',' && mayEndPart()) {
                endPart();
                beginPart();
                return true;
            }
            return false;
        }

        boolean acceptsOfWeight(int digit) {
            boolean leadingZero = digits > 0 && value == 0;
            return !leadingZero && takesDigit(digit, MOST_WEIGHT);
        }

        boolean acceptsOfTimes(int digit) {
            boolean leadingZero = digits == 0 && digit == 0;
            return !leadingZero && takesDigit(digit, MOST_TIMES);
        }

        boolean takesDigit(int digit, int most) {
            int longer = 10 * value + digit;
            if (longer > most) {
                return false;
            }
            value = longer;
            digits++;
            return true;
        }

        boolean mayEndPart() {
            return inTimes ? value >= LEAST_TIMES : digits > 0;
        }

        void beginPart() {
            inTimes = false;
            digits = 0;
            value = 0;
        }

        void endPart() {
            if (parts >= 0 && parts < partWeights.length && parts < partTimes.length) {
                partWeights[parts] = inTimes ? weight : value;
                partTimes[parts] = inTimes ? value : 1;
                parts++;
            }
        }
    }
}
