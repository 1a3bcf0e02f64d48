import java.util.ArrayList;
import java.util.Comparator;
import java.util.List;

/**
 * The document once more, written slowly and directly, without regard to speed:
 * ModelTest compares the controller's answers with this model's.
 */
final class PlainModel {
    static final int NONE = -1, NO_SUCH = -2, BAD_VALUE = -3, FULL = -4, TOO_LATE = -5, SWINGING = -6,
            CLASH = -7, POWER = -8, MISSING = -9, BUSY = -10, TOO_STRONG = -11;

    private static final class Bell implements Cloneable {
        int delay, recovery, weight, half, amplitude, target, start, side;
        boolean swings, motor, held;

        Bell copy() {
            try {
                return (Bell) clone();
            } catch (CloneNotSupportedException e) {
                throw new IllegalStateException(e);
            }
        }

        void begin(int time, int goal) {
            swings = true;
            motor = true;
            amplitude = 0;
            side = 1;
            target = goal;
            start = time;
        }

        boolean turnDue(int time) {
            return swings && time > start && (time - start) % half == 0;
        }

        void doTurn() {
            side *= -1;
            int loss = (int) Math.floor(amplitude * 30 / 1000.0) + 2;
            amplitude -= loss;
            if (amplitude < 0) {
                amplitude = 0;
            }
            if (motor && amplitude < target) {
                amplitude += 80;
                if (amplitude > target) {
                    amplitude = target;
                }
            }
            if (amplitude == 0 && !motor) {
                swings = false;
            }
        }

        int forceNow(int time) {
            if (!swings) {
                return 0;
            }
            int u = (time - start) % half;
            return side * weight * amplitude * (half - 2 * u) / (100 * half);
        }
    }

    private record Stroke(int bell, int command, int time, int recovery) {
        boolean moves(int tick) {
            return command <= tick && tick < time;
        }

        boolean occupies(int tick) {
            return command <= tick && tick < time + recovery;
        }
    }

    private record Sounded(int bell, int time, int clapper) { }

    private static final class Entry {
        int which, due, period, ticks, shift, last = NONE;
    }

    private static final class ReadError extends Exception {
        private static final long serialVersionUID = 1L;
        final int code, position;

        ReadError(int code, int position) {
            this.code = code;
            this.position = position;
        }
    }

    private final List<Bell> bells = new ArrayList<>();
    private final List<Stroke> scheduled = new ArrayList<>();
    private final List<Stroke> past = new ArrayList<>();
    private final List<Sounded> record = new ArrayList<>();
    private final List<Integer> buffer = new ArrayList<>();
    private final List<List<Integer>> patterns = new ArrayList<>();
    private final List<Entry> entries = new ArrayList<>();
    private int now = 0, powerLimit = 3, shakeLimit = 2000, failures = 0, error = 0, errorPosition = NONE;

    PlainModel() {
        for (int i = 0; i < 5; i++) {
            patterns.add(null);
        }
    }

    private boolean noBell(int bell) {
        return bell < 0 || bell >= bells.size();
    }

    int addBell(int delay, int recovery, int weight, int half) {
        if (delay < 1 || delay > 50 || recovery < 0 || recovery > 100 || weight < 1 || weight > 99
                || half < 10 || half > 60) {
            return BAD_VALUE;
        }
        if (bells.size() == 12) {
            return FULL;
        }
        Bell bell = new Bell();
        bell.delay = delay;
        bell.recovery = recovery;
        bell.weight = weight;
        bell.half = half;
        bells.add(bell);
        return bells.size() - 1;
    }

    int bellCount() {
        return bells.size();
    }

    int delay(int bell) {
        return noBell(bell) ? NO_SUCH : bells.get(bell).delay;
    }

    int calibrate(int bell, int measured) {
        if (noBell(bell)) {
            return NO_SUCH;
        }
        if (measured < 1 || measured > 50) {
            return BAD_VALUE;
        }
        return bells.get(bell).delay = (int) Math.floor((3 * bells.get(bell).delay + measured + 2) / 4.0);
    }

    int setPowerLimit(int hammers) {
        if (hammers < 1 || hammers > 12) {
            return BAD_VALUE;
        }
        int old = powerLimit;
        powerLimit = hammers;
        return old;
    }

    int currentTime() {
        return now;
    }

    int advance(int ticks) {
        if (ticks < 0 || ticks > 2000) {
            return BAD_VALUE;
        }
        if (now + ticks > 100000) {
            return FULL;
        }
        int before = record.size();
        for (int goal = now + ticks; now < goal;) {
            now++;
            for (int bell = 0; bell < bells.size(); bell++) {
                for (Stroke stroke : new ArrayList<>(scheduled)) {
                    if (stroke.bell == bell && stroke.time == now) {
                        scheduled.remove(stroke);
                        past.add(stroke);
                        record.add(new Sounded(bell, now, 0));
                    }
                }
            }
            past.removeIf(stroke -> stroke.time + stroke.recovery <= now);
            for (int number = 0; number < bells.size(); number++) {
                Bell bell = bells.get(number);
                if (bell.turnDue(now)) {
                    bell.doTurn();
                    if (bell.amplitude >= 400 && !bell.held) {
                        record.add(new Sounded(number, now, 1));
                    }
                }
            }
            for (Entry entry : new ArrayList<>(entries)) {
                if (entry.due - now <= 100) {
                    carryOut(entry);
                }
            }
        }
        return record.size() - before;
    }

    private void carryOut(Entry entry) {
        int answer = weave(entry.which, entry.due, entry.ticks, entry.shift);
        if (answer >= 0) {
            entry.last = answer;
        } else {
            entry.last = NONE;
            failures++;
        }
        if (entry.period > 0 && entry.due + entry.period <= 100000) {
            entry.due += entry.period;
        } else {
            entries.remove(entry);
        }
    }

    int recordLength() {
        return Math.min(200, record.size());
    }

    private Sounded latest(int index) {
        return index < recordLength() ? record.get(record.size() - 1 - index) : null;
    }

    int recordBell(int index) {
        return index < 0 ? BAD_VALUE : latest(index) == null ? NONE : latest(index).bell;
    }

    int recordTime(int index) {
        return index < 0 ? BAD_VALUE : latest(index) == null ? NONE : latest(index).time;
    }

    int recordClapper(int index) {
        return index < 0 ? BAD_VALUE : latest(index) == null ? NONE : latest(index).clapper;
    }

    private int tryStroke(int bell, int time) {
        if (noBell(bell)) {
            return NO_SUCH;
        }
        if (time < 0 || time > 100000) {
            return BAD_VALUE;
        }
        if (bells.get(bell).swings) {
            return SWINGING;
        }
        int command = time - bells.get(bell).delay;
        if (command < now) {
            return TOO_LATE;
        }
        if (scheduled.size() == 300) {
            return FULL;
        }
        int recovery = bells.get(bell).recovery;
        for (List<Stroke> strokes : List.of(scheduled, past)) {
            for (Stroke other : strokes) {
                if (other.bell == bell && other.command < time + recovery && command < other.time + recovery) {
                    return CLASH;
                }
            }
        }
        for (int tick = command; tick < time; tick++) {
            if (countMoving(tick) + 1 > powerLimit) {
                return POWER;
            }
        }
        return 0;
    }

    private int countMoving(int tick) {
        int moving = 0;
        for (Stroke stroke : scheduled) {
            moving += stroke.moves(tick) ? 1 : 0;
        }
        return moving;
    }

    int scheduleStroke(int bell, int time) {
        int answer = tryStroke(bell, time);
        if (answer < 0) {
            return answer;
        }
        int command = time - bells.get(bell).delay;
        scheduled.add(new Stroke(bell, command, time, bells.get(bell).recovery));
        return command;
    }

    int cancelStroke(int bell, int time) {
        if (noBell(bell)) {
            return NO_SUCH;
        }
        for (Stroke stroke : scheduled) {
            if (stroke.bell == bell && stroke.time == time) {
                if (stroke.command <= now) {
                    return TOO_LATE;
                }
                scheduled.remove(stroke);
                return scheduled.size();
            }
        }
        return NO_SUCH;
    }

    int scheduledCount() {
        return scheduled.size();
    }

    int nextStroke(int bell) {
        if (noBell(bell)) {
            return NO_SUCH;
        }
        return scheduled.stream().filter(s -> s.bell == bell).mapToInt(Stroke::time).min().orElse(NONE);
    }

    private Stroke inOrder(int index) {
        List<Stroke> sorted = new ArrayList<>(scheduled);
        sorted.sort(Comparator.comparingInt(Stroke::command).thenComparingInt(Stroke::bell));
        return index < sorted.size() ? sorted.get(index) : null;
    }

    int commandTime(int index) {
        return index < 0 ? BAD_VALUE : inOrder(index) == null ? NONE : inOrder(index).command;
    }

    int commandBell(int index) {
        return index < 0 ? BAD_VALUE : inOrder(index) == null ? NONE : inOrder(index).bell;
    }

    int movingHammers(int time) {
        return time < now || time > 100000 ? BAD_VALUE : countMoving(time);
    }

    int earliestStroke(int bell, int from) {
        if (noBell(bell)) {
            return NO_SUCH;
        }
        if (from < 0 || from > 100000) {
            return BAD_VALUE;
        }
        if (bells.get(bell).swings) {
            return SWINGING;
        }
        if (scheduled.size() == 300) {
            return FULL;
        }
        for (int time = from; time <= from + 2000; time++) {
            if (tryStroke(bell, time) == 0) {
                return time;
            }
        }
        return NONE;
    }

    int appendBytes(int a, int b, int c, int d, int e) {
        if (buffer.size() + 20 > 300) {
            return FULL;
        }
        for (int word : new int[] {a, b, c, d, e}) {
            for (byte part : java.nio.ByteBuffer.allocate(4).putInt(word).array()) {
                buffer.add(Byte.toUnsignedInt(part));
            }
        }
        return buffer.size();
    }

    int loadPattern(int which, int n) {
        if (which < 0 || which > 4) {
            return NO_SUCH;
        }
        if (n < 0 || n > buffer.size()) {
            return BAD_VALUE;
        }
        StringBuilder text = new StringBuilder();
        for (int i = 0; i < n; i++) {
            text.append((char) (int) buffer.get(i));
        }
        buffer.clear();
        try {
            List<Integer> steps = new Reading(text.toString()).pattern();
            error = 0;
            errorPosition = NONE;
            patterns.set(which, steps);
            return steps.size();
        } catch (ReadError e) {
            error = e.code;
            errorPosition = e.position;
            return -30 - e.code;
        }
    }

    /** Reads by recursive descent. */
    private static final class Reading {
        private final String text;
        private int at = 0;

        Reading(String text) {
            this.text = text;
        }

        private boolean here(String signs) {
            return at < text.length() && signs.indexOf(text.charAt(at)) >= 0;
        }

        List<Integer> pattern() throws ReadError {
            List<Integer> steps = items(0, 0);
            if (at < text.length()) {
                throw new ReadError(1, at);
            }
            if (steps.isEmpty()) {
                throw new ReadError(5, at);
            }
            return steps;
        }

        /** The items up to what is no item, behind so many steps and inside so many parentheses. */
        private List<Integer> items(int stepsBefore, int depth) throws ReadError {
            List<Integer> steps = new ArrayList<>();
            while (true) {
                while (here(" ")) {
                    at++;
                }
                if (!here("-abcdefghijkl(")) {
                    return steps;
                }
                int start = at;
                List<Integer> item = item(stepsBefore + steps.size(), depth);
                steps.addAll(item);
                if (stepsBefore + steps.size() > 100) {
                    throw new ReadError(4, start);
                }
            }
        }

        private List<Integer> item(int stepsBefore, int depth) throws ReadError {
            List<Integer> steps = new ArrayList<>();
            if (here("(")) {
                if (depth == 3) {
                    throw new ReadError(3, at);
                }
                at++;
                List<Integer> inside = items(stepsBefore, depth + 1);
                if (!here(")")) {
                    throw new ReadError(1, at);
                }
                if (inside.isEmpty()) {
                    throw new ReadError(5, at);
                }
                at++;
                if (!here("0123456789")) {
                    throw new ReadError(1, at);
                }
                for (int times = number(); times > 0; times--) {
                    steps.addAll(inside);
                }
                return steps;
            }
            int set = 0;
            if (here("-")) {
                at++;
            } else {
                while (here("abcdefghijkl")) {
                    set |= 1 << "abcdefghijkl".indexOf(text.charAt(at));
                    at++;
                }
            }
            steps.add(set);
            if (here("0123456789")) {
                for (int rests = number() - 1; rests > 0; rests--) {
                    steps.add(0);
                }
            }
            return steps;
        }

        private int number() throws ReadError {
            int start = at;
            while (here("0123456789") && at < start + 2) {
                at++;
            }
            int value = Integer.parseInt(text.substring(start, at));
            if (value < 1 || value > 20) {
                throw new ReadError(2, start);
            }
            return value;
        }
    }

    int patternError() {
        return error;
    }

    int patternErrorPosition() {
        return errorPosition;
    }

    private int noPattern(int which) {
        return which < 0 || which > 4 ? NO_SUCH : patterns.get(which) == null ? MISSING : 0;
    }

    int stepBells(int which, int step) {
        if (noPattern(which) != 0) {
            return noPattern(which);
        }
        return step < 0 || step >= patterns.get(which).size() ? NONE : patterns.get(which).get(step);
    }

    /** Each stroke as its step and its bell. */
    private List<int[]> strokesOf(int which) {
        List<int[]> strokes = new ArrayList<>();
        for (int step = 0; step < patterns.get(which).size(); step++) {
            for (int bell = 0; bell < bells.size(); bell++) {
                if ((patterns.get(which).get(step) & 1 << bell) != 0) {
                    strokes.add(new int[] {step, bell});
                }
            }
        }
        return strokes;
    }

    int patternStrokes(int which) {
        return noPattern(which) != 0 ? noPattern(which) : strokesOf(which).size();
    }

    int play(int which, int time, int ticks) {
        if (noPattern(which) != 0) {
            return noPattern(which);
        }
        if (time < 0 || time > 100000 || ticks < 1 || ticks > 200) {
            return BAD_VALUE;
        }
        return playFrom(which, time, ticks);
    }

    private int playFrom(int which, int time, int ticks) {
        List<Stroke> before = new ArrayList<>(scheduled);
        List<int[]> strokes = strokesOf(which);
        for (int[] stroke : strokes) {
            int answer = scheduleStroke(stroke[1], time + stroke[0] * ticks);
            if (answer < 0) {
                scheduled.clear();
                scheduled.addAll(before);
                return answer;
            }
        }
        return strokes.size();
    }

    int weave(int which, int time, int ticks, int shift) {
        if (noPattern(which) != 0) {
            return noPattern(which);
        }
        if (time < 0 || time > 100000 || ticks < 1 || ticks > 200 || shift < 0 || shift > 500) {
            return BAD_VALUE;
        }
        for (int later = 0; later <= shift; later++) {
            if (playFrom(which, time + later, ticks) >= 0) {
                return later;
            }
        }
        return NONE;
    }

    int fastestTicks(int which) {
        if (noPattern(which) != 0) {
            return noPattern(which);
        }
        for (int ticks = 1; ticks <= 200; ticks++) {
            PlainModel fresh = new PlainModel();
            fresh.powerLimit = powerLimit;
            for (Bell bell : bells) {
                fresh.addBell(bell.delay, bell.recovery, bell.weight, bell.half);
            }
            fresh.patterns.set(which, patterns.get(which));
            if (fresh.play(which, 1000, ticks) >= 0) {
                return ticks;
            }
        }
        return NONE;
    }

    int powerNeeded(int which, int ticks) {
        if (noPattern(which) != 0) {
            return noPattern(which);
        }
        if (ticks < 1 || ticks > 200) {
            return BAD_VALUE;
        }
        int[] moving = new int[20100];
        int most = 0;
        for (int[] stroke : strokesOf(which)) {
            int time = 100 + stroke[0] * ticks;
            for (int tick = time - bells.get(stroke[1]).delay; tick < time; tick++) {
                most = Math.max(most, ++moving[tick]);
            }
        }
        return most;
    }

    int addEntry(int which, int time, int period, int ticks, int shift) {
        if (which < 0 || which > 4) {
            return NO_SUCH;
        }
        boolean periodic = period >= 200 && period <= 50000;
        if (time < 0 || time > 100000 || !(period == 0 || periodic) || ticks < 1 || ticks > 200
                || shift < 0 || shift > 500) {
            return BAD_VALUE;
        }
        if (entries.size() == 8) {
            return FULL;
        }
        Entry entry = new Entry();
        entry.which = which;
        entry.due = time;
        entry.period = period;
        entry.ticks = ticks;
        entry.shift = shift;
        entries.add(entry);
        return entries.size() - 1;
    }

    private boolean noEntry(int entry) {
        return entry < 0 || entry >= entries.size();
    }

    int removeEntry(int entry) {
        if (noEntry(entry)) {
            return NO_SUCH;
        }
        entries.remove(entry);
        return entries.size();
    }

    int entryCount() {
        return entries.size();
    }

    int dueTime(int entry) {
        return noEntry(entry) ? NO_SUCH : entries.get(entry).due;
    }

    int lastShift(int entry) {
        return noEntry(entry) ? NO_SUCH : entries.get(entry).last;
    }

    int failureCount() {
        return failures;
    }

    /** The shake at each of the ticks from now on, where a bell may start after a wait. */
    private int[] shakesAhead(int ticks, int starting, int target, int wait) {
        List<Bell> ahead = new ArrayList<>();
        for (Bell bell : bells) {
            ahead.add(bell.copy());
        }
        int[] shakes = new int[ticks + 1];
        for (int tick = 0; tick <= ticks; tick++) {
            for (int number = 0; number < ahead.size(); number++) {
                Bell bell = ahead.get(number);
                if (tick > 0 && bell.turnDue(now + tick)) {
                    bell.doTurn();
                }
                if (number == starting && tick == wait) {
                    bell.begin(now + tick, target);
                }
                shakes[tick] += bell.forceNow(now + tick);
            }
        }
        return shakes;
    }

    private static int greatest(int[] shakes, int from, int to) {
        int greatest = 0;
        for (int tick = from; tick <= to; tick++) {
            greatest = Math.max(greatest, Math.abs(shakes[tick]));
        }
        return greatest;
    }

    int startSwing(int bell, int target) {
        if (noBell(bell)) {
            return NO_SUCH;
        }
        if (target < 1 || target > 1000) {
            return BAD_VALUE;
        }
        if (bells.get(bell).swings) {
            return SWINGING;
        }
        if (nextStroke(bell) != NONE) {
            return BUSY;
        }
        if (greatest(shakesAhead(600, bell, target, 0), 0, 600) > shakeLimit) {
            return TOO_STRONG;
        }
        bells.get(bell).begin(now, target);
        return now + bells.get(bell).half;
    }

    int stopMotor(int bell) {
        if (noBell(bell)) {
            return NO_SUCH;
        }
        if (!bells.get(bell).swings) {
            return NONE;
        }
        bells.get(bell).motor = false;
        return bells.get(bell).amplitude;
    }

    int holdClapper(int bell, boolean held) {
        if (noBell(bell)) {
            return NO_SUCH;
        }
        int before = bells.get(bell).held ? 1 : 0;
        bells.get(bell).held = held;
        return before;
    }

    int amplitude(int bell) {
        return noBell(bell) ? NO_SUCH : bells.get(bell).swings ? bells.get(bell).amplitude : NONE;
    }

    int nextTurn(int bell) {
        if (noBell(bell)) {
            return NO_SUCH;
        }
        if (!bells.get(bell).swings) {
            return NONE;
        }
        int time = now + 1;
        while (!bells.get(bell).turnDue(time)) {
            time++;
        }
        return time;
    }

    int amplitudeAfter(int bell, int turns) {
        if (noBell(bell)) {
            return NO_SUCH;
        }
        if (turns < 0 || turns > 200) {
            return BAD_VALUE;
        }
        if (!bells.get(bell).swings) {
            return NONE;
        }
        Bell ahead = bells.get(bell).copy();
        for (int turn = 0; turn < turns; turn++) {
            ahead.doTurn();
        }
        return ahead.swings ? ahead.amplitude : 0;
    }

    int turnsUntilLoud(int bell) {
        if (noBell(bell)) {
            return NO_SUCH;
        }
        for (int turns = 1; turns <= 200; turns++) {
            if (amplitudeAfter(bell, turns) >= 400) {
                return turns;
            }
        }
        return NONE;
    }

    int force(int bell) {
        return noBell(bell) ? NO_SUCH : bells.get(bell).forceNow(now) + 100000;
    }

    int shake(int ticks) {
        return ticks < 0 || ticks > 600 ? BAD_VALUE : shakesAhead(ticks, NONE, 0, NONE)[ticks] + 100000;
    }

    int greatestShake(int ticks) {
        return ticks < 0 || ticks > 600 ? BAD_VALUE : greatest(shakesAhead(ticks, NONE, 0, NONE), 0, ticks);
    }

    int setShakeLimit(int limit) {
        if (limit < 0 || limit > 100000) {
            return BAD_VALUE;
        }
        int old = shakeLimit;
        shakeLimit = limit;
        return old;
    }

    int calmestWait(int bell, int target) {
        if (noBell(bell)) {
            return NO_SUCH;
        }
        if (target < 1 || target > 1000) {
            return BAD_VALUE;
        }
        if (bells.get(bell).swings) {
            return SWINGING;
        }
        int best = 0;
        int least = Integer.MAX_VALUE;
        for (int wait = 0; wait < 2 * bells.get(bell).half; wait++) {
            int most = greatest(shakesAhead(wait + 600, bell, target, wait), wait, wait + 600);
            if (most < least) {
                least = most;
                best = wait;
            }
        }
        return best;
    }
}
