/** What the tests make objects with, and tell them by. */
class Slivers {
    static final int LOW = Integer.MIN_VALUE;
    static final int HIGH = Integer.MAX_VALUE;
    static final int[] NO_CANS = {-1, 8, LOW, HIGH};

    /** Some call on an object. */
    interface Act {
        void on(DrawnSlivers x);
    }

    static void type(DrawnSlivers x, String text) {
        for (int i = 0; i < text.length(); i++) {
            x.append(text.charAt(i));
        }
    }

    static int put(DrawnSlivers x, int can, String text) {
        type(x, text);
        return x.fill(can);
    }

    static DrawnSlivers typed(String text) {
        DrawnSlivers x = new DrawnSlivers();
        type(x, text);
        return x;
    }

    /** An object whose can 0 has the sliver and is fed. */
    static DrawnSlivers fed(String text) {
        DrawnSlivers x = new DrawnSlivers();
        put(x, 0, text);
        x.feed(1);
        return x;
    }

    /** The same, but the feeler does not even: each draft is the one that is told here. */
    static DrawnSlivers drawnBy(int draft, String text) {
        DrawnSlivers x = fed(text);
        x.set(3, 0);
        x.set(1, draft);
        return x;
    }

    static String sliver(DrawnSlivers x, int can) {
        StringBuilder all = new StringBuilder();
        // A broken program may tell no end: 41 metres are wrong in any case.
        for (int metre = 0; metre <= 40; metre++) {
            int weight = x.metre(can, metre);
            if (weight == DrawnSlivers.NONE) {
                break;
            }
            all.append(metre == 0 ? "" : ",").append(weight);
        }
        return all.toString();
    }

    static String feelerOf(DrawnSlivers x) {
        StringBuilder all = new StringBuilder();
        for (int ago = 0; ago <= 6; ago++) {
            all.append(ago == 0 ? "" : ",").append(x.feeler(ago));
        }
        return all.toString();
    }

    /** All that the looks tell of the state, without the number of saved states. */
    static String looks(DrawnSlivers x) {
        StringBuilder all = new StringBuilder();
        for (int what = 0; what <= 10; what++) {
            all.append(x.count(what)).append(' ');
        }
        for (int setting = 0; setting <= 4; setting++) {
            all.append(x.setting(setting)).append(' ');
        }
        for (int can = 0; can < 8; can++) {
            all.append('[').append(sliver(x, can)).append(']');
        }
        return all.append(feelerOf(x)).toString();
    }

    static String times(String text, int many) {
        return text.repeat(many);
    }
}
