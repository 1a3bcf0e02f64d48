import java.util.Arrays;

/** Each method with the edges of its parameters' ranges, two of them at a time, in a state of each kind. */
public final class ExtremesTest {
    private static final int STATES = 6;
    private static final int CALLS = 500;

    /** A method, with the kinds of its parameters. */
    private static final String[] METHODS = {
        "addBell delay recovery weight half", "bellCount", "delay bell", "calibrate bell delay", "setPowerLimit power",
        "currentTime", "advance advance", "recordLength", "recordBell index", "recordTime index", "recordClapper index",
        "scheduleStroke bell time", "cancelStroke bell time", "scheduledCount", "nextStroke bell", "commandTime index",
        "commandBell index", "movingHammers time", "earliestStroke bell time", "appendBytes word word word word word",
        "loadPattern which length", "patternError", "patternErrorPosition", "stepBells which step", "patternStrokes which",
        "play which time ticks", "weave which time ticks shift", "fastestTicks which", "powerNeeded which ticks",
        "addEntry which time period ticks shift", "removeEntry entry", "entryCount", "dueTime entry", "lastShift entry",
        "failureCount", "startSwing bell target", "stopMotor bell", "holdClapper bell flag", "amplitude bell",
        "nextTurn bell", "amplitudeAfter bell turns", "turnsUntilLoud bell", "force bell", "shake ahead",
        "greatestShake ahead", "setShakeLimit limit", "calmestWait bell target"
    };

    private final int state;
    private Pair pair = new Pair();
    private int failed = 0;
    private int made = 0;

    private ExtremesTest(int state) {
        this.state = state;
        renew();
    }

    /** The edges of a range with the values next to them, and the ints farthest off. */
    private static Object[] edges(int first, int last) {
        return new Object[] {first, first - 1, first + 1, last, last - 1, last + 1, Integer.MIN_VALUE,
            Integer.MAX_VALUE};
    }

    private Object[] values(String kind) {
        int now = pair.model().currentTime();
        switch (kind) {
            case "bell": return edges(0, Math.max(0, pair.model().bellCount() - 1));
            case "delay": return edges(1, 50);
            case "recovery": return edges(0, 100);
            case "weight": return edges(1, 99);
            case "half": return edges(10, 60);
            case "power": return edges(1, 12);
            case "advance": return new Object[] {0, -1, 2001, 100000 - now, 100001 - now, Integer.MIN_VALUE,
                Integer.MAX_VALUE, 1, 2, 30};
            case "index": return new Object[] {0, -1, 1, 199, 200, 299, 300, Integer.MIN_VALUE, Integer.MAX_VALUE};
            case "time": return new Object[] {0, -1, now - 1, now, now + 1, now + 49, now + 50, now + 110, 99999, 100000,
                100001, Integer.MIN_VALUE, Integer.MAX_VALUE};
            case "word": return new Object[] {0x61626320, 0, -1, Integer.MIN_VALUE, Integer.MAX_VALUE};
            case "which": return edges(0, 4);
            case "length": return new Object[] {0, -1, 1, 19, 20, 21, 300, 301, Integer.MIN_VALUE, Integer.MAX_VALUE};
            case "step": return new Object[] {0, -1, 1, 99, 100, Integer.MIN_VALUE, Integer.MAX_VALUE};
            case "ticks": return edges(1, 200);
            case "shift": return edges(0, 500);
            case "period": return new Object[] {0, -1, 1, 199, 200, 201, 49999, 50000, 50001, Integer.MIN_VALUE,
                Integer.MAX_VALUE};
            case "entry": return edges(0, 7);
            case "target": return edges(1, 1000);
            case "flag": return new Object[] {true, false};
            case "turns": return edges(0, 200);
            case "ahead": return edges(0, 600);
            case "limit": return edges(0, 100000);
            default: throw new IllegalStateException(kind);
        }
    }

    /** A new pair in the state, when the last one has seen as many calls as an object is used for. */
    private void renew() {
        pair = new Pair();
        int bells = new int[] {0, 1, 12, 12, 12, 11}[state];
        for (int bell = 0; bell < bells; bell++) {
            pair.call("addBell", 1 + 4 * bell % 50, 9 * bell, 1 + 8 * bell, 10 + 4 * bell);
        }
        switch (state) {
            case 2: rich(); break;
            case 3: full(); break;
            case 4: ended(); break;
            case 5: swinging(); break;
            default: break;
        }
    }

    private void rich() {
        pair.load(0, "ab-c");
        pair.load(1, "l (-)20 k");
        pair.load(2, "((a)10)10");
        pair.load(4, "ab(c)0");
        pair.call("startSwing", 9, 600);
        pair.call("scheduleStroke", 11, 70);
        pair.call("advance", 70);
        pair.call("scheduleStroke", 2, 110);
        pair.call("scheduleStroke", 3, 111);
        pair.call("scheduleStroke", 0, 120);
        pair.call("addEntry", 0, 180, 200, 9, 5);
        pair.call("addEntry", 3, 500, 0, 1, 0);
        pair.call("appendBytes", 0x61206220, 0x63206420, 0x6520662d, 0x2d2d2d2d, 0x2d2d2d2d);
    }

    private void full() {
        pair.load(4, "((a)10)10");
        for (int hundred = 0; hundred < 3; hundred++) {
            pair.call("play", 4, 10 + 100 * hundred, 1);
        }
        pair.call("advance", 210);
        pair.call("play", 4, 310, 1);
        pair.call("play", 4, 410, 1);
        pair.load(0, "b");
        pair.load(1, "-20-20-20-20-20");
        for (int entry = 0; entry < 8; entry++) {
            pair.call("addEntry", entry % 3, 311 + entry, 200, 1, entry);
        }
        for (int part = 0; part < 15; part++) {
            pair.call("appendBytes", 0x20202020, 0x20202020, 0x20202020, 0x20202020, 0x20202d61);
        }
    }

    private void ended() {
        pair.load(0, "a");
        pair.load(1, "-");
        for (int part = 0; part < 49; part++) {
            pair.call("advance", 2000);
        }
        pair.call("startSwing", 1, 500);
        pair.call("advance", 1950);
        pair.call("scheduleStroke", 0, 100000);
        pair.call("scheduleStroke", 2, 99999);
        pair.call("addEntry", 0, 99999, 0, 1, 500);
        pair.call("addEntry", 0, 50000, 50000, 1, 500);
        pair.call("advance", 49);
    }

    private void swinging() {
        pair.call("setShakeLimit", 100000);
        for (int bell = 0; bell < 11; bell++) {
            pair.call("startSwing", bell, 1 + 99 * bell);
            pair.call("advance", 3 * bell);
        }
        pair.call("stopMotor", 3);
        pair.call("stopMotor", 8);
        pair.call("holdClapper", 10, true);
        pair.load(0, "a l");
    }

    private void call(String name, Object[] arguments) {
        if (pair.calls() >= CALLS) {
            renew();
        }
        pair.call(name, arguments);
        made++;
        if (pair.isWrong()) {
            failed++;
            System.out.println("state " + state + ", " + pair.story());
            renew();
        }
    }

    /** All pairs of values of two parameters, the others of which take their first values. */
    private void tryAll(String method) {
        String[] words = method.split(" ");
        String[] kinds = Arrays.copyOfRange(words, 1, words.length);
        Object[] usual = new Object[kinds.length];
        for (int i = 0; i < kinds.length; i++) {
            usual[i] = values(kinds[i])[0];
        }
        call(words[0], usual);
        for (int i = 0; i < kinds.length; i++) {
            for (Object value : values(kinds[i])) {
                Object[] arguments = usual.clone();
                arguments[i] = value;
                call(words[0], arguments);
                for (int j = i + 1; j < kinds.length; j++) {
                    for (Object other : values(kinds[j])) {
                        Object[] both = arguments.clone();
                        both[j] = other;
                        call(words[0], both);
                    }
                }
            }
        }
    }

    private int run() {
        for (String method : METHODS) {
            renew();
            tryAll(method);
            // what came of it, seen from outside
            call("advance", new Object[] {1});
            call("scheduledCount", new Object[0]);
            call("commandTime", new Object[] {0});
            call("greatestShake", new Object[] {600});
            call("failureCount", new Object[0]);
            call("advance", new Object[] {150});
            call("recordLength", new Object[0]);
            call("recordTime", new Object[] {0});
        }
        return failed;
    }

    public static void main(String[] args) {
        int failed = 0;
        int made = 0;
        for (int state = 0; state < STATES; state++) {
            ExtremesTest test = new ExtremesTest(state);
            failed += test.run();
            made += test.made;
        }
        System.out.println(failed == 0 ? made + " calls agree with the model" : failed + " calls do not agree");
        if (failed > 0) {
            System.exit(1);
        }
    }
}
