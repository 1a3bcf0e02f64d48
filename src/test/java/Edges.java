import java.util.function.Supplier;

/** Walks along the edges of a parameter's range. */
final class Edges {
    /** A call with one parameter that is tried out. */
    interface Call {
        int on(BellController x, int value);
    }

    private static final int[] FAR = {Integer.MIN_VALUE, Integer.MIN_VALUE + 1, -65536, -256, 1 << 24,
        Integer.MAX_VALUE - 1, Integer.MAX_VALUE};

    private Edges() { }

    /** The smallest and the largest value get an answer, the values next to them outside and far off a refusal. */
    static void range(String name, int first, int last, int refusal, Supplier<BellController> maker, Call call) {
        for (int value : new int[] {first, Math.min(first + 1, last), Math.max(last - 1, first), last}) {
            int answer = call.on(maker.get(), value);
            Check.holds(name + " of " + value + " answered " + answer, answer >= 0);
        }
        Check.due(name + " of " + (first - 1), call.on(maker.get(), first - 1), refusal);
        Check.due(name + " of " + (last + 1), call.on(maker.get(), last + 1), refusal);
        for (int value : FAR) {
            Check.due(name + " of " + value, call.on(maker.get(), value), refusal);
        }
    }

    /** The same for a number of a bell, of a controller without bells, with one and with all twelve. */
    static void bells(String name, Call call) {
        for (int value : new int[] {-1, 0, 1, 11, 12, Integer.MIN_VALUE, Integer.MAX_VALUE}) {
            Check.due(name + " without bells", call.on(new BellController(), value), Check.NO_SUCH);
        }
        range(name + " with a bell", 0, 0, Check.NO_SUCH, () -> Check.quickBells(1), call);
        range(name + " with twelve bells", 0, 11, Check.NO_SUCH, () -> Check.quickBells(12), call);
    }

    /** The same for the number of a pattern: each call is made on an object whose five patterns are "a". */
    static void patterns(String name, Call call) {
        range(name, 0, 4, Check.NO_SUCH, Edges::fivePatterns, call);
    }

    /** The number of a pattern that is missing, first of all of them and then of some. */
    static void missing(String name, Call call) {
        for (int which = 0; which < 5; which++) {
            Check.due(name + " of " + which, call.on(Check.quickBells(1), which), Check.MISSING);
            BellController x = Check.quickBells(1);
            for (int other = 0; other < 5; other++) {
                Check.load(x, other, other == which ? "a?" : "a");
            }
            Check.due(name + " of " + which + " alone missing", call.on(x, which), Check.MISSING);
            int next = (which + 1) % 5;
            Check.holds(name + " of " + next + " beside it", call.on(x, next) >= 0);
        }
    }

    /** The same for the number of an entry, in an empty programme, one with an entry, and a full one. */
    static void entries(String name, Call call) {
        for (int value : new int[] {-1, 0, 1, 7, 8, Integer.MIN_VALUE, Integer.MAX_VALUE}) {
            Check.due(name + " of an empty programme", call.on(new BellController(), value), Check.NO_SUCH);
        }
        range(name + " of one entry", 0, 0, Check.NO_SUCH, () -> wovenEntries(1), call);
        range(name + " of a full programme", 0, 7, Check.NO_SUCH, () -> wovenEntries(8), call);
    }

    static BellController fivePatterns() {
        BellController x = Check.quickBells(1);
        for (int which = 0; which < 5; which++) {
            Check.load(x, which, "a");
        }
        return x;
    }

    /** So many entries, each of which has been woven once. */
    private static BellController wovenEntries(int entries) {
        BellController x = Edges.fivePatterns();
        for (int i = 0; i < entries; i++) {
            x.addEntry(0, 50 + i, 5000, 1, 0);
        }
        x.advance(1);
        return x;
    }
}
