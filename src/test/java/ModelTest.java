import java.util.HashMap;
import java.util.Map;
import java.util.Random;

/** Long runs of calls, made from fixed seeds, on the controller and on the plain model: all answers must agree. */
public final class ModelTest {
    private static final int RUNS = 420;
    private static final int CALLS = 512;
    /** A text of 300 bytes, and the call that reads it. */
    private static final int CALLS_OF_TEXT = 16;

    /** A method, the kinds of its arguments, and how often it comes in each of the styles of a run. */
    private static final String[][] METHODS = {
        {"addBell", "delay recovery weight half", "2 2 2 2 2"},
        {"bellCount", "", "1 1 1 1 1"},
        {"delay", "bell", "1 1 1 1 1"},
        {"calibrate", "bell delay", "2 6 3 2 1"},
        {"setPowerLimit", "power", "1 6 4 2 1"},
        {"currentTime", "", "1 1 1 1 1"},
        {"advance", "advance", "8 20 10 40 30"},
        {"recordLength", "", "1 2 1 2 2"},
        {"recordBell", "index", "2 4 1 2 5"},
        {"recordTime", "index", "2 4 1 2 5"},
        {"recordClapper", "index", "2 4 1 2 5"},
        {"scheduleStroke", "bell time", "8 120 10 8 8"},
        {"cancelStroke", "bell time", "4 20 2 4 2"},
        {"scheduledCount", "", "2 4 4 6 1"},
        {"nextStroke", "bell", "4 10 4 6 2"},
        {"commandTime", "index", "4 10 6 6 1"},
        {"commandBell", "index", "4 10 6 6 1"},
        {"movingHammers", "time", "4 10 6 4 1"},
        {"earliestStroke", "bell time", "4 20 4 4 2"},
        {"appendBytes", "word word word word word", "2 1 4 1 1"},
        {"loadPattern", "which length", "1 1 2 1 1"},
        {"text", "", "6 1 40 8 1"},
        {"patternError", "", "1 1 4 1 1"},
        {"patternErrorPosition", "", "1 1 4 1 1"},
        {"stepBells", "which step", "2 1 20 1 1"},
        {"patternStrokes", "which", "2 1 8 2 1"},
        {"play", "which time ticks", "4 2 30 4 1"},
        {"weave", "which time ticks shift", "4 2 20 4 1"},
        {"fastestTicks", "which", "1 1 4 1 1"},
        {"powerNeeded", "which ticks", "2 1 10 1 1"},
        {"addEntry", "which time period ticks shift", "4 1 2 24 1"},
        {"removeEntry", "entry", "1 1 1 3 1"},
        {"entryCount", "", "1 1 1 4 1"},
        {"dueTime", "entry", "2 1 1 10 1"},
        {"lastShift", "entry", "2 1 1 10 1"},
        {"failureCount", "", "2 1 1 8 1"},
        {"startSwing", "bell target", "4 2 1 2 20"},
        {"stopMotor", "bell", "2 1 1 1 6"},
        {"holdClapper", "bell flag", "2 1 1 1 6"},
        {"amplitude", "bell", "2 1 1 1 10"},
        {"nextTurn", "bell", "2 1 1 1 10"},
        {"amplitudeAfter", "bell turns", "2 1 1 1 10"},
        {"turnsUntilLoud", "bell", "2 1 1 1 10"},
        {"force", "bell", "2 1 1 1 10"},
        {"shake", "ahead", "2 1 1 1 10"},
        {"greatestShake", "ahead", "2 1 1 1 10"},
        {"setShakeLimit", "limit", "1 1 1 1 6"},
        {"calmestWait", "bell target", "1 1 1 1 4"},
    };

    private final Random random;
    private final int run;
    private final int style;
    private final Pair pair = new Pair();
    private final PlainModel model = pair.model();
    private static final Map<String, Map<Integer, Integer>> SEEN = new HashMap<>();

    private ModelTest(int run) {
        this.run = run;
        this.random = new Random(run * 7919L);
        this.style = run % 5;
    }

    private int below(int bound) {
        return random.nextInt(bound);
    }

    private int between(int first, int last) {
        return first + below(last - first + 1);
    }

    private int oneOf(int... values) {
        return values[below(values.length)];
    }

    /** A value in the range, at or just beyond an edge of it now and then, and seldom anything. */
    private int near(int first, int last, int usualFirst, int usualLast) {
        int dice = below(60);
        if (dice == 0) {
            return oneOf(first - 1, last + 1);
        }
        if (dice == 1) {
            return oneOf(Integer.MIN_VALUE, Integer.MAX_VALUE, -1, random.nextInt());
        }
        if (dice < 6) {
            return oneOf(first, last);
        }
        return dice < 12 ? between(first, last) : between(usualFirst, usualLast);
    }

    private Object argument(String kind) {
        int now = model.currentTime();
        int bells = Math.max(1, model.bellCount());
        switch (kind) {
            case "bell": return near(0, bells - 1, 0, bells - 1);
            case "delay": return style == 1 && below(2) == 0 ? between(1, 6) : near(1, 50, 1, 25);
            case "recovery": return near(0, 100, 0, 12);
            case "weight": return near(1, 99, 10, 99);
            case "half": return near(10, 60, 10, 60);
            case "power": return near(1, 12, 1, 12);
            case "advance": return near(0, 2000, 0, style == 3 ? 150 : 40);
            case "index": return near(0, 310, 0, below(4) == 0 ? 230 : 12);
            case "time":
                if (below(5) == 0 && model.scheduledCount() > 0) {
                    int index = below(model.scheduledCount());
                    return model.commandTime(index) + model.delay(model.commandBell(index)) + oneOf(0, 0, 1, -1);
                }
                return near(0, 100000, now, Math.min(100050, now + (style == 3 ? 300 : 120)));
            case "word": return random.nextInt();
            case "which": return near(0, 4, 0, 4);
            case "length": return near(0, 20, 0, 20);
            case "step": return near(0, 99, 0, 20);
            case "ticks": return near(1, 200, 1, 30);
            case "shift": return near(0, 500, 0, 60);
            case "period": return below(3) == 0 ? 0 : near(200, 50000, 200, 300);
            case "entry": return near(0, 7, 0, 5);
            case "target": return near(1, 1000, 100, 1000);
            case "flag": return random.nextBoolean();
            case "turns": return near(0, 200, 0, 30);
            case "ahead": return near(0, 600, 0, 600);
            case "limit": return near(0, 100000, 200, 4000);
            default: throw new IllegalStateException(kind);
        }
    }

    private void call(String name, Object... arguments) {
        boolean before = pair.isWrong();
        int want = pair.call(name, arguments);
        SEEN.computeIfAbsent(name, key -> new HashMap<>()).merge(Math.min(want, 0), 1, Integer::sum);
        if (pair.isWrong() && !before) {
            System.out.println("run " + run + ", " + pair.story());
        }
    }

    private void loadText(int which, String text) {
        for (Object[] words : Pair.wordsOf(text)) {
            call("appendBytes", words);
        }
        call("loadPattern", which, text.length());
    }

    private String number() {
        int dice = below(40);
        if (dice == 0) {
            return "" + oneOf(0, 21, 99, 100, 123, 210, 5);
        }
        if (dice == 1) {
            return "0" + below(10);
        }
        return "" + (dice < 25 ? between(1, 4) : between(1, 20));
    }

    private String item(int depth) {
        if (below(4 + depth) == 0) {
            StringBuilder inside = new StringBuilder("(");
            for (int items = below(25) == 0 ? 0 : between(1, 3); items > 0; items--) {
                inside.append(item(depth + 1));
            }
            return inside + (below(8) == 0 ? " )" : ")") + number();
        }
        StringBuilder item = new StringBuilder(below(6) == 0 ? " " : "");
        if (below(4) == 0) {
            item.append('-');
        } else {
            for (int letters = oneOf(1, 1, 1, 2, 2, 3); letters > 0; letters--) {
                item.append((char) ('a' + below(below(4) == 0 ? 12 : Math.max(1, model.bellCount()))));
            }
        }
        return item + (below(3) == 0 ? number() : "");
    }

    private String text() {
        StringBuilder text = new StringBuilder();
        for (int items = between(0, oneOf(3, 6, 12, 40)); items > 0; items--) {
            text.append(item(0));
        }
        if (below(4) == 0 && text.length() > 0) {
            String signs = " ()-abl0123m\u0000\u00ff";
            text.setCharAt(below(text.length()), signs.charAt(below(signs.length())));
        }
        if (below(10) == 0) {
            text.setLength(below(text.length() + 1));
        }
        text.setLength(Math.min(text.length(), 300));
        return text.toString();
    }

    private void start() {
        for (int bells = between(0, 13); bells > 0; bells--) {
            call("addBell", argument("delay"), argument("recovery"), argument("weight"), argument("half"));
        }
        if (below(3) == 0) {
            call("setPowerLimit", 12);
        }
        if (below(3) == 0 || style == 4) {
            call("setShakeLimit", 100000);
        }
        int late = below(6) == 0 ? between(46, 49) : 0;
        for (; late > 0; late--) {
            call("advance", 2000);
        }
        if (style == 2 || style == 3) {
            for (int which = 0; which < 5; which++) {
                loadText(which, text());
            }
        }
    }

    /** Fills the schedule to its limit now and then, where single random strokes would not. */
    private void fill() {
        int time = model.currentTime() + 60;
        int bells = model.bellCount();
        for (int i = 0; i < 320 && bells > 0; i++) {
            call("scheduleStroke", i % bells, time + i / bells * 30);
        }
    }

    private boolean passes() {
        start();
        if (below(8) == 0) {
            fill();
        }
        int total = 0;
        for (String[] method : METHODS) {
            total += weightOf(method);
        }
        while (pair.calls() <= CALLS - CALLS_OF_TEXT && !pair.isWrong()) {
            int dice = below(total);
            int chosen = 0;
            for (; dice >= weightOf(METHODS[chosen]); chosen++) {
                dice -= weightOf(METHODS[chosen]);
            }
            String[] method = METHODS[chosen];
            if (method[0].equals("text")) {
                loadText((Integer) argument("which"), text());
                continue;
            }
            String[] kinds = method[1].isEmpty() ? new String[0] : method[1].split(" ");
            Object[] arguments = new Object[kinds.length];
            for (int i = 0; i < kinds.length; i++) {
                arguments[i] = argument(kinds[i]);
            }
            if (method[0].equals("cancelStroke") && model.scheduledCount() > 0 && below(2) == 0) {
                // random pairs of a bell and a time would seldom be a stroke
                int bell = model.commandBell(below(model.scheduledCount()));
                arguments = new Object[] {bell, model.nextStroke(bell)};
            }
            call(method[0], arguments);
        }
        return !pair.isWrong();
    }

    private int weightOf(String[] method) {
        return Integer.parseInt(method[2].split(" ")[style]);
    }

    public static void main(String[] args) {
        int runs = args.length > 0 ? Integer.parseInt(args[0]) : RUNS;
        int failed = 0;
        for (int run = 1; run <= runs && failed < 3; run++) {
            if (!new ModelTest(run).passes()) {
                failed++;
            }
        }
        if (args.length > 1) {
            SEEN.forEach((name, kinds) -> System.out.println(name + " " + kinds));
        }
        System.out.println(failed == 0 ? runs + " runs agree with the model" : failed + " runs do not agree");
        if (failed > 0) {
            System.exit(1);
        }
    }
}
