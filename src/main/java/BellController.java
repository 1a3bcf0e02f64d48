/** A controller for the motor-driven bells of a tower. */
public final class BellController {
    public static final int NONE = -1;
    public static final int NO_SUCH = -2;
    public static final int BAD_VALUE = -3;
    public static final int FULL = -4;
    public static final int TOO_LATE = -5;
    public static final int SWINGING = -6;
    public static final int CLASH = -7;
    public static final int POWER = -8;
    public static final int MISSING = -9;
    public static final int BUSY = -10;
    public static final int TOO_STRONG = -11;

    private static final int MAX_BELLS = 12;
    private static final int MAX_DELAY = 50;
    private static final int MAX_RECOVERY = 100;
    private static final int MAX_WEIGHT = 99;
    private static final int MIN_HALF_PERIOD = 10;
    private static final int MAX_HALF_PERIOD = 60;
    private static final int LAST_TIME = 100000;
    private static final int MAX_ADVANCE = 2000;
    private static final int SEARCH_SPAN = 2000;
    private static final int MAX_SCHEDULED = 300;
    private static final int MAX_RECORD = 200;
    private static final int MAX_TEXT = 300;
    private static final int APPENDED_BYTES = 20;
    private static final int PATTERNS = 5;
    private static final int MAX_STEPS = 100;
    private static final int MAX_NUMBER = 20;
    private static final int MAX_DEPTH = 3;
    private static final int MAX_TICKS = 200;
    private static final int MAX_SHIFT = 500;
    private static final int MAX_ENTRIES = 8;
    private static final int MIN_PERIOD = 200;
    private static final int MAX_PERIOD = 50000;
    private static final int LOOK_AHEAD = 100;
    private static final int MAX_AMPLITUDE = 1000;
    private static final int LOUD = 400;
    private static final int GROWTH = 80;
    private static final int MAX_TURNS = 200;
    private static final int SHAKE_SPAN = 600;
    private static final int MAX_SHAKE_LIMIT = 100000;
    private static final int BEYOND_ANY_SHAKE = 1000000;
    private static final int FORCE_ZERO = 100000;

    /** A stroke that is commanded so much earlier than another has no hold on it any more. */
    private static final int REACH = MAX_DELAY + MAX_RECOVERY;

    /** What an examined stroke gets that can be scheduled; every refusal is negative. */
    private static final int FREE = 0;

    private static final int BAD_CHARACTER = 1;
    private static final int BAD_NUMBER = 2;
    private static final int TOO_DEEP = 3;
    private static final int TOO_LONG = 4;
    private static final int NO_ITEMS = 5;

    private final Bell[] bells = new Bell[MAX_BELLS];
    private final Bell imagined = new Bell();
    private final StrokeLog log = new StrokeLog();
    private final Schedule schedule = new Schedule();
    private final Schedule draft = new Schedule();
    private final PatternReader reader = new PatternReader();
    private final Pattern[] patterns = new Pattern[PATTERNS];
    private final Entry[] entries = new Entry[MAX_ENTRIES];
    private final int[] shakes = new int[SHAKE_SPAN + 2 * MAX_HALF_PERIOD];
    private final int[] startedForces = new int[SHAKE_SPAN + 1];
    private final int[] movingBells = new int[MAX_DELAY + 1];
    private int bellsAdded = 0;
    private int entriesAdded = 0;
    private int now = 0;
    private int powerLimit = 3;
    private int shakeLimit = 2000;
    private int failures = 0;

    public BellController() {
        for (int i = 0; i < MAX_BELLS; i++) {
            bells[i] = new Bell();
        }
        for (int i = 0; i < PATTERNS; i++) {
            patterns[i] = new Pattern();
        }
        for (int i = 0; i < MAX_ENTRIES; i++) {
            entries[i] = new Entry();
        }
    }

    // ---- bells

    public int addBell(int delay, int recovery, int weight, int halfPeriod) {
        if (outside(delay, 1, MAX_DELAY) || outside(recovery, 0, MAX_RECOVERY)
                || outside(weight, 1, MAX_WEIGHT)
                || outside(halfPeriod, MIN_HALF_PERIOD, MAX_HALF_PERIOD)) {
            return BAD_VALUE;
        }
        if (bellsAdded >= MAX_BELLS) {
            return FULL;
        }
        Bell bell = bells[bellsAdded];
        bell.hammerDelay = delay;
        bell.recovery = recovery;
        bell.weight = weight;
        bell.halfPeriod = halfPeriod;
        bellsAdded++;
        return bellsAdded - 1;
    }

    public int bellCount() {
        return bellsAdded;
    }

    public int delay(int bell) {
        return isBell(bell) ? bells[bell].hammerDelay : NO_SUCH;
    }

    public int calibrate(int bell, int measured) {
        if (!isBell(bell)) {
            return NO_SUCH;
        }
        if (outside(measured, 1, MAX_DELAY)) {
            return BAD_VALUE;
        }
        Bell corrected = bells[bell];
        corrected.hammerDelay = (3 * corrected.hammerDelay + measured + 2) / 4;
        return corrected.hammerDelay;
    }

    public int setPowerLimit(int hammers) {
        if (outside(hammers, 1, MAX_BELLS)) {
            return BAD_VALUE;
        }
        int previous = powerLimit;
        powerLimit = hammers;
        return previous;
    }

    // ---- time and record

    public int currentTime() {
        return now;
    }

    public int advance(int ticks) {
        if (outside(ticks, 0, MAX_ADVANCE)) {
            return BAD_VALUE;
        }
        if (now + ticks > LAST_TIME) {
            return FULL;
        }
        int sounded = 0;
        for (int left = ticks; left > 0; left--) {
            now++;
            sounded += soundHammers();
            sounded += turnBells();
            runProgramme();
        }
        return sounded;
    }

    public int recordLength() {
        return log.length;
    }

    public int recordBell(int index) {
        if (index < 0) {
            return BAD_VALUE;
        }
        int slot = log.slotOf(index);
        return slot < 0 ? NONE : log.bells[slot];
    }

    public int recordTime(int index) {
        if (index < 0) {
            return BAD_VALUE;
        }
        int slot = log.slotOf(index);
        return slot < 0 ? NONE : log.times[slot];
    }

    public int recordClapper(int index) {
        if (index < 0) {
            return BAD_VALUE;
        }
        int slot = log.slotOf(index);
        return slot < 0 ? NONE : log.clappers[slot];
    }

    // ---- hammer strokes

    public int scheduleStroke(int bell, int time) {
        if (!isBell(bell)) {
            return NO_SUCH;
        }
        if (outside(time, 0, LAST_TIME)) {
            return BAD_VALUE;
        }
        int refusal = examine(schedule, bell, time);
        if (refusal != FREE) {
            return refusal;
        }
        int command = time - bells[bell].hammerDelay;
        schedule.insert(bell, command, time);
        return command;
    }

    public int cancelStroke(int bell, int time) {
        if (!isBell(bell)) {
            return NO_SUCH;
        }
        int index = schedule.indexOf(bell, time);
        if (index < 0) {
            return NO_SUCH;
        }
        if (schedule.commands[index] <= now) {
            return TOO_LATE;
        }
        schedule.removeAt(index);
        return schedule.count;
    }

    public int scheduledCount() {
        return schedule.count;
    }

    public int nextStroke(int bell) {
        return isBell(bell) ? schedule.firstTimeOf(bell) : NO_SUCH;
    }

    public int commandTime(int index) {
        if (index < 0) {
            return BAD_VALUE;
        }
        return index < schedule.count ? schedule.commands[index] : NONE;
    }

    public int commandBell(int index) {
        if (index < 0) {
            return BAD_VALUE;
        }
        return index < schedule.count ? schedule.bells[index] : NONE;
    }

    public int movingHammers(int time) {
        return outside(time, now, LAST_TIME) ? BAD_VALUE : schedule.movingAt(time);
    }

    public int earliestStroke(int bell, int from) {
        if (!isBell(bell)) {
            return NO_SUCH;
        }
        if (outside(from, 0, LAST_TIME)) {
            return BAD_VALUE;
        }
        if (bells[bell].swings) {
            return SWINGING;
        }
        if (schedule.isFull()) {
            return FULL;
        }
        int last = Math.min(from + SEARCH_SPAN, LAST_TIME);
        for (int time = from; time <= last; time++) {
            if (examine(schedule, bell, time) == FREE) {
                return time;
            }
        }
        return NONE;
    }

    // ---- tune and chimes

    public int appendBytes(int a, int b, int c, int d, int e) {
        if (reader.textLength + APPENDED_BYTES > MAX_TEXT) {
            return FULL;
        }
        reader.append(a);
        reader.append(b);
        reader.append(c);
        reader.append(d);
        reader.append(e);
        return reader.textLength;
    }

    public int loadPattern(int which, int n) {
        if (!isPattern(which)) {
            return NO_SUCH;
        }
        if (outside(n, 0, reader.textLength)) {
            return BAD_VALUE;
        }
        reader.read(n);
        reader.textLength = 0;
        if (reader.error != 0) {
            return -30 - reader.error;
        }
        Pattern pattern = patterns[which];
        System.arraycopy(reader.steps, 0, pattern.steps, 0, reader.length);
        pattern.length = reader.length;
        return pattern.length;
    }

    public int patternError() {
        return reader.error;
    }

    public int patternErrorPosition() {
        return reader.errorPosition;
    }

    public int stepBells(int which, int step) {
        if (!isPattern(which)) {
            return NO_SUCH;
        }
        Pattern pattern = patterns[which];
        if (pattern.isMissing()) {
            return MISSING;
        }
        return step < 0 || step >= pattern.length ? NONE : pattern.steps[step];
    }

    public int patternStrokes(int which) {
        if (!isPattern(which)) {
            return NO_SUCH;
        }
        Pattern pattern = patterns[which];
        return pattern.isMissing() ? MISSING : pattern.strokesOf(existingBells());
    }

    public int play(int which, int time, int ticks) {
        if (!isPattern(which)) {
            return NO_SUCH;
        }
        if (patterns[which].isMissing()) {
            return MISSING;
        }
        if (outside(time, 0, LAST_TIME) || outside(ticks, 1, MAX_TICKS)) {
            return BAD_VALUE;
        }
        int strokes = draftPattern(patterns[which], time, ticks);
        if (strokes >= 0) {
            schedule.copyFrom(draft);
        }
        return strokes;
    }

    public int weave(int which, int time, int ticks, int shift) {
        if (!isPattern(which)) {
            return NO_SUCH;
        }
        if (patterns[which].isMissing()) {
            return MISSING;
        }
        if (outside(time, 0, LAST_TIME) || outside(ticks, 1, MAX_TICKS)
                || outside(shift, 0, MAX_SHIFT)) {
            return BAD_VALUE;
        }
        return weaveFrom(patterns[which], time, ticks, shift);
    }

    public int fastestTicks(int which) {
        if (!isPattern(which)) {
            return NO_SUCH;
        }
        if (patterns[which].isMissing()) {
            return MISSING;
        }
        for (int ticks = 1; ticks <= MAX_TICKS; ticks++) {
            if (fitsAlone(patterns[which], ticks)) {
                return ticks;
            }
        }
        return NONE;
    }

    public int powerNeeded(int which, int ticks) {
        if (!isPattern(which)) {
            return NO_SUCH;
        }
        Pattern pattern = patterns[which];
        if (pattern.isMissing()) {
            return MISSING;
        }
        if (outside(ticks, 1, MAX_TICKS)) {
            return BAD_VALUE;
        }
        listMovingBells();
        int most = 0;
        // Where the most hammers move, they still do just before the first of their strokes.
        for (int step = 0; step < pattern.length; step++) {
            most = Math.max(most, movingBefore(pattern, ticks, step));
        }
        return most;
    }

    // ---- programme

    public int addEntry(int which, int time, int period, int ticks, int shift) {
        if (!isPattern(which)) {
            return NO_SUCH;
        }
        if (outside(time, 0, LAST_TIME)
                || period != 0 && outside(period, MIN_PERIOD, MAX_PERIOD)
                || outside(ticks, 1, MAX_TICKS) || outside(shift, 0, MAX_SHIFT)) {
            return BAD_VALUE;
        }
        if (entriesAdded >= MAX_ENTRIES) {
            return FULL;
        }
        Entry entry = entries[entriesAdded];
        entry.which = which;
        entry.due = time;
        entry.period = period;
        entry.ticks = ticks;
        entry.largestShift = shift;
        entry.latestShift = NONE;
        entriesAdded++;
        return entriesAdded - 1;
    }

    public int removeEntry(int entry) {
        if (!isEntry(entry)) {
            return NO_SUCH;
        }
        dropEntry(entry);
        return entriesAdded;
    }

    public int entryCount() {
        return entriesAdded;
    }

    public int dueTime(int entry) {
        return isEntry(entry) ? entries[entry].due : NO_SUCH;
    }

    public int lastShift(int entry) {
        return isEntry(entry) ? entries[entry].latestShift : NO_SUCH;
    }

    public int failureCount() {
        return failures;
    }

    // ---- swinging

    public int startSwing(int bell, int target) {
        if (!isBell(bell)) {
            return NO_SUCH;
        }
        if (outside(target, 1, MAX_AMPLITUDE)) {
            return BAD_VALUE;
        }
        if (bells[bell].swings) {
            return SWINGING;
        }
        if (schedule.firstTimeOf(bell) != NONE) {
            return BUSY;
        }
        foreseeShakes(SHAKE_SPAN);
        imagined.copyFrom(bells[bell]);
        imagined.start(now, target);
        imagined.addForces(shakes, now, SHAKE_SPAN);
        if (greatestUpTo(SHAKE_SPAN) > shakeLimit) {
            return TOO_STRONG;
        }
        bells[bell].start(now, target);
        return bells[bell].turnTime();
    }

    public int stopMotor(int bell) {
        if (!isBell(bell)) {
            return NO_SUCH;
        }
        if (!bells[bell].swings) {
            return NONE;
        }
        bells[bell].motorOn = false;
        return bells[bell].amplitude;
    }

    public int holdClapper(int bell, boolean held) {
        if (!isBell(bell)) {
            return NO_SUCH;
        }
        int before = bells[bell].clapperHeld ? 1 : 0;
        bells[bell].clapperHeld = held;
        return before;
    }

    public int amplitude(int bell) {
        if (!isBell(bell)) {
            return NO_SUCH;
        }
        return bells[bell].swings ? bells[bell].amplitude : NONE;
    }

    public int nextTurn(int bell) {
        if (!isBell(bell)) {
            return NO_SUCH;
        }
        return bells[bell].swings ? bells[bell].turnTime() : NONE;
    }

    public int amplitudeAfter(int bell, int turns) {
        if (!isBell(bell)) {
            return NO_SUCH;
        }
        if (outside(turns, 0, MAX_TURNS)) {
            return BAD_VALUE;
        }
        if (!bells[bell].swings) {
            return NONE;
        }
        imagined.copyFrom(bells[bell]);
        for (int turn = 1; turn <= turns; turn++) {
            imagined.turn();
        }
        return imagined.amplitude;
    }

    public int turnsUntilLoud(int bell) {
        if (!isBell(bell)) {
            return NO_SUCH;
        }
        if (!bells[bell].swings) {
            return NONE;
        }
        imagined.copyFrom(bells[bell]);
        for (int turn = 1; turn <= MAX_TURNS; turn++) {
            imagined.turn();
            if (imagined.amplitude >= LOUD) {
                return turn;
            }
        }
        return NONE;
    }

    // ---- the tower

    public int force(int bell) {
        return isBell(bell) ? bells[bell].forceAt(now) + FORCE_ZERO : NO_SUCH;
    }

    public int shake(int ticks) {
        if (outside(ticks, 0, SHAKE_SPAN)) {
            return BAD_VALUE;
        }
        foreseeShakes(ticks);
        return shakes[ticks] + FORCE_ZERO;
    }

    public int greatestShake(int ticks) {
        if (outside(ticks, 0, SHAKE_SPAN)) {
            return BAD_VALUE;
        }
        foreseeShakes(ticks);
        return greatestUpTo(ticks);
    }

    public int setShakeLimit(int limit) {
        if (outside(limit, 0, MAX_SHAKE_LIMIT)) {
            return BAD_VALUE;
        }
        int previous = shakeLimit;
        shakeLimit = limit;
        return previous;
    }

    public int calmestWait(int bell, int target) {
        if (!isBell(bell)) {
            return NO_SUCH;
        }
        if (outside(target, 1, MAX_AMPLITUDE)) {
            return BAD_VALUE;
        }
        if (bells[bell].swings) {
            return SWINGING;
        }
        int longest = 2 * bells[bell].halfPeriod - 1;
        foreseeShakes(SHAKE_SPAN + longest);
        imagined.copyFrom(bells[bell]);
        imagined.start(now, target);
        clear(startedForces);
        imagined.addForces(startedForces, now, SHAKE_SPAN);
        int calmest = 0;
        int least = BEYOND_ANY_SHAKE;
        for (int wait = 0; wait <= longest; wait++) {
            int greatest = greatestIfStartedAfter(wait, least);
            if (greatest < least) {
                least = greatest;
                calmest = wait;
            }
        }
        return calmest;
    }

    // ---- what the methods share

    private static boolean outside(int value, int smallest, int largest) {
        return value < smallest || value > largest;
    }

    private static void clear(int[] row) {
        for (int i = 0; i < row.length; i++) {
            row[i] = 0;
        }
    }

    private boolean isBell(int number) {
        return number >= 0 && number < bellsAdded;
    }

    private static boolean isPattern(int which) {
        return which >= 0 && which < PATTERNS;
    }

    private boolean isEntry(int number) {
        return number >= 0 && number < entriesAdded;
    }

    /** The bells that exist, as a bit set. */
    private int existingBells() {
        return (1 << bellsAdded) - 1;
    }

    private int soundHammers() {
        int sounding = schedule.takeSounding(now);
        int sounded = 0;
        for (int number = 0; number < bellsAdded && sounding != 0; number++) {
            if ((sounding >> number & 1) != 0) {
                bells[number].occupiedUntil = now + bells[number].recovery;
                log.add(number, now, 0);
                sounded++;
            }
        }
        return sounded;
    }

    private int turnBells() {
        int sounded = 0;
        for (int number = 0; number < bellsAdded; number++) {
            Bell bell = bells[number];
            if (bell.turnsAt(now)) {
                bell.turn();
                if (bell.amplitude >= LOUD && !bell.clapperHeld) {
                    log.add(number, now, 1);
                    sounded++;
                }
            }
        }
        return sounded;
    }

    private void runProgramme() {
        int number = 0;
        for (int left = entriesAdded; left > 0; left--) {
            if (entries[number].due > now + LOOK_AHEAD || carryOut(entries[number])) {
                number++;
            } else {
                dropEntry(number);
            }
        }
    }

    /** Answers whether the entry stays in the programme. */
    private boolean carryOut(Entry entry) {
        Pattern pattern = patterns[entry.which];
        entry.latestShift = pattern.isMissing() ? NONE
                : weaveFrom(pattern, entry.due, entry.ticks, entry.largestShift);
        if (entry.latestShift == NONE) {
            failures++;
        }
        if (entry.period == 0 || entry.due + entry.period > LAST_TIME) {
            return false;
        }
        entry.due += entry.period;
        return true;
    }

    private void dropEntry(int number) {
        Entry dropped = entries[number];
        for (int i = number + 1; i < entriesAdded; i++) {
            entries[i - 1] = entries[i];
        }
        entriesAdded--;
        entries[entriesAdded] = dropped;
    }

    /** Examines a stroke of an existing bell at a time from 0 on: FREE, or why it can't be scheduled. */
    private int examine(Schedule plan, int number, int time) {
        Bell bell = bells[number];
        int command = time - bell.hammerDelay;
        if (time > LAST_TIME) {
            return BAD_VALUE;
        }
        if (bell.swings) {
            return SWINGING;
        }
        if (command < now) {
            return TOO_LATE;
        }
        if (plan.isFull()) {
            return FULL;
        }
        int first = plan.rankOf(command - REACH);
        if (command < bell.occupiedUntil
                || plan.clashes(first, number, command, time, bell.recovery)) {
            return CLASH;
        }
        return plan.overloads(first, command, time, powerLimit) ? POWER : FREE;
    }

    /** Leaves what is scheduled and the pattern in the draft: the number of its strokes, or why one can't be scheduled. */
    private int draftPattern(Pattern pattern, int time, int ticks) {
        draft.copyFrom(schedule);
        int existing = existingBells();
        int strokes = 0;
        for (int step = 0; step < pattern.length; step++) {
            int struck = pattern.steps[step] & existing;
            int at = time + step * ticks;
            for (int number = 0; number < bellsAdded && struck != 0; number++) {
                if ((struck >> number & 1) != 0) {
                    int refusal = examine(draft, number, at);
                    if (refusal != FREE) {
                        return refusal;
                    }
                    draft.insert(number, at - bells[number].hammerDelay, at);
                    strokes++;
                }
            }
        }
        return strokes;
    }

    /** Answers the shift, or NONE. */
    private int weaveFrom(Pattern pattern, int time, int ticks, int shift) {
        // A long search is spared where each of its tries would fail alike.
        int first = Math.max(time, readyTime(pattern, ticks));
        int strokes = pattern.strokesOf(existingBells());
        if (first > time + shift || schedule.count + strokes > MAX_SCHEDULED
                || swingsIn(pattern) || !fitsAlone(pattern, ticks)) {
            return NONE;
        }
        for (int at = first; at <= time + shift; at++) {
            if (draftPattern(pattern, at, ticks) >= 0) {
                schedule.copyFrom(draft);
                return at - time;
            }
        }
        return NONE;
    }

    /** The smallest time of step 0 at which every hammer is back from its sounded strokes for its command. */
    private int readyTime(Pattern pattern, int ticks) {
        int ready = 0;
        for (int step = 0; step < pattern.length; step++) {
            int struck = pattern.steps[step] & existingBells();
            for (int number = 0; number < bellsAdded && struck != 0; number++) {
                if ((struck >> number & 1) != 0) {
                    Bell bell = bells[number];
                    int earliest = Math.max(now, bell.occupiedUntil) + bell.hammerDelay;
                    ready = Math.max(ready, earliest - step * ticks);
                }
            }
        }
        return ready;
    }

    private boolean swingsIn(Pattern pattern) {
        for (int number = 0; number < bellsAdded; number++) {
            if (bells[number].swings && pattern.strokesOf(1 << number) > 0) {
                return true;
            }
        }
        return false;
    }

    /** Whether the pattern could be played if there were nothing else, with time enough. */
    private boolean fitsAlone(Pattern pattern, int ticks) {
        draft.count = 0;
        for (int step = 0; step < pattern.length; step++) {
            int struck = pattern.steps[step] & existingBells();
            int at = step * ticks;
            for (int number = 0; number < bellsAdded && struck != 0; number++) {
                if ((struck >> number & 1) != 0) {
                    Bell bell = bells[number];
                    int command = at - bell.hammerDelay;
                    int first = draft.rankOf(command - REACH);
                    if (draft.isFull() || draft.clashes(first, number, command, at, bell.recovery)
                            || draft.overloads(first, command, at, powerLimit)) {
                        return false;
                    }
                    draft.insert(number, command, at);
                }
            }
        }
        return true;
    }

    /** Lists for each number of ticks before a stroke the bells whose hammers move then. */
    private void listMovingBells() {
        for (int before = 1; before <= MAX_DELAY; before++) {
            int moving = 0;
            for (int number = 0; number < bellsAdded; number++) {
                if (bells[number].hammerDelay >= before) {
                    moving |= 1 << number;
                }
            }
            movingBells[before] = moving;
        }
    }

    /** How many strokes of a pattern have moving hammers at the tick before a step. */
    private int movingBefore(Pattern pattern, int ticks, int first) {
        int moving = 0;
        for (int step = first; step < pattern.length; step++) {
            int before = (step - first) * ticks + 1;
            if (before > MAX_DELAY) {
                return moving;
            }
            moving += Integer.bitCount(pattern.steps[step] & movingBells[before]);
        }
        return moving;
    }

    /** Fills the row of shakes from now to the last tick, for the bells that swing. */
    private void foreseeShakes(int last) {
        clear(shakes);
        for (int number = 0; number < bellsAdded; number++) {
            if (bells[number].swings) {
                imagined.copyFrom(bells[number]);
                imagined.addForces(shakes, now, last);
            }
        }
    }

    private int greatestUpTo(int last) {
        int greatest = 0;
        for (int tick = 0; tick <= last && tick < shakes.length; tick++) {
            greatest = Math.max(greatest, Math.abs(shakes[tick]));
        }
        return greatest;
    }

    /** Ends early at what is not less than the bound, as such a wait is not chosen. */
    private int greatestIfStartedAfter(int wait, int bound) {
        int greatest = 0;
        int end = Math.min(startedForces.length, shakes.length - wait);
        for (int tick = 0; tick < end && greatest < bound; tick++) {
            greatest = Math.max(greatest, Math.abs(shakes[wait + tick] + startedForces[tick]));
        }
        return greatest;
    }

    private static final class Bell {
        int hammerDelay = 1;
        int recovery = 0;
        int weight = 1;
        int halfPeriod = MIN_HALF_PERIOD;
        int occupiedUntil = 0;
        boolean clapperHeld = false;
        boolean swings = false;
        boolean motorOn = false;
        int amplitude = 0;
        int side = 1;
        int target = 0;
        int latestTurn = 0;

        void copyFrom(Bell other) {
            weight = other.weight;
            halfPeriod = other.halfPeriod;
            swings = other.swings;
            motorOn = other.motorOn;
            amplitude = other.amplitude;
            side = other.side;
            target = other.target;
            latestTurn = other.latestTurn;
        }

        void start(int time, int targetAmplitude) {
            swings = true;
            motorOn = true;
            amplitude = 0;
            side = 1;
            target = targetAmplitude;
            latestTurn = time;
        }

        int turnTime() {
            return latestTurn + halfPeriod;
        }

        boolean turnsAt(int time) {
            return swings && time == turnTime();
        }

        void turn() {
            latestTurn = turnTime();
            side = -side;
            amplitude = Math.max(0, amplitude - (amplitude * 30 / 1000 + 2));
            if (motorOn && amplitude < target) {
                amplitude = Math.min(amplitude + GROWTH, target);
            }
            if (amplitude == 0 && !motorOn) {
                swings = false;
            }
        }

        int forceAt(int time) {
            if (!swings || halfPeriod < 1) {
                return 0;
            }
            int sinceTurn = time - latestTurn;
            return side * weight * amplitude * (halfPeriod - 2 * sinceTurn) / (100 * halfPeriod);
        }

        /** Lives through the ticks from a time on, and adds the force at each of them to the row. */
        void addForces(int[] row, int from, int last) {
            for (int tick = 0; tick <= last && tick < row.length; tick++) {
                if (turnsAt(from + tick)) {
                    turn();
                }
                row[tick] += forceAt(from + tick);
            }
        }
    }

    /** The latest strokes that sounded; the oldest makes room for the newest. */
    private static final class StrokeLog {
        final int[] bells = new int[MAX_RECORD];
        final int[] times = new int[MAX_RECORD];
        final int[] clappers = new int[MAX_RECORD];
        int length = 0;
        int next = 0;

        void add(int bell, int time, int clapper) {
            bells[next] = bell;
            times[next] = time;
            clappers[next] = clapper;
            next = next + 1 < MAX_RECORD ? next + 1 : 0;
            length = Math.min(length + 1, MAX_RECORD);
        }

        int slotOf(int index) {
            if (index < 0 || index >= length) {
                return NONE;
            }
            int slot = next - 1 - index;
            return slot < 0 ? slot + MAX_RECORD : slot;
        }
    }

    /** Hammer strokes in the order of their command times, equal ones in the order of the bells. */
    private static final class Schedule {
        final int[] bells = new int[MAX_SCHEDULED];
        final int[] commands = new int[MAX_SCHEDULED];
        final int[] times = new int[MAX_SCHEDULED];
        final int[] changes = new int[MAX_DELAY + 1];
        int count = 0;

        boolean isFull() {
            return count >= MAX_SCHEDULED;
        }

        void copyFrom(Schedule other) {
            count = other.count;
            System.arraycopy(other.bells, 0, bells, 0, count);
            System.arraycopy(other.commands, 0, commands, 0, count);
            System.arraycopy(other.times, 0, times, 0, count);
        }

        /** The number of strokes whose command time is less. */
        int rankOf(int command) {
            int rank = 0;
            for (int leap = 256; leap > 0; leap /= 2) {
                if (rank + leap <= count && commands[rank + leap - 1] < command) {
                    rank += leap;
                }
            }
            return rank;
        }

        void insert(int bell, int command, int time) {
            if (isFull()) {
                return;
            }
            int index = rankOf(command);
            while (index < count && commands[index] == command && bells[index] < bell) {
                index++;
            }
            System.arraycopy(bells, index, bells, index + 1, count - index);
            System.arraycopy(commands, index, commands, index + 1, count - index);
            System.arraycopy(times, index, times, index + 1, count - index);
            bells[index] = bell;
            commands[index] = command;
            times[index] = time;
            count++;
        }

        void removeAt(int index) {
            if (index < 0 || index >= count) {
                return;
            }
            count--;
            System.arraycopy(bells, index + 1, bells, index, count - index);
            System.arraycopy(commands, index + 1, commands, index, count - index);
            System.arraycopy(times, index + 1, times, index, count - index);
        }

        int indexOf(int bell, int time) {
            for (int i = 0; i < count; i++) {
                if (bells[i] == bell && times[i] == time) {
                    return i;
                }
            }
            return NONE;
        }

        /** A bell's strokes never overlap: the one commanded first sounds first. */
        int firstTimeOf(int bell) {
            for (int i = 0; i < count; i++) {
                if (bells[i] == bell) {
                    return times[i];
                }
            }
            return NONE;
        }

        int movingAt(int time) {
            int moving = 0;
            for (int i = 0; i < count && commands[i] <= time; i++) {
                if (times[i] > time) {
                    moving++;
                }
            }
            return moving;
        }

        /** Removes the strokes that sound at a time, and answers their bells as a bit set. */
        int takeSounding(int time) {
            int sounding = 0;
            int commanded = 0;
            while (commanded < count && commands[commanded] < time) {
                commanded++;
            }
            for (int i = commanded - 1; i >= 0; i--) {
                if (times[i] == time) {
                    sounding |= 1 << bells[i];
                    removeAt(i);
                }
            }
            return sounding;
        }

        boolean clashes(int first, int bell, int command, int time, int recovery) {
            for (int i = first; i < count && commands[i] < time + recovery; i++) {
                if (bells[i] == bell && times[i] + recovery > command) {
                    return true;
                }
            }
            return false;
        }

        boolean overloads(int first, int command, int time, int powerLimit) {
            int length = Math.min(time - command, MAX_DELAY);
            for (int tick = 0; tick <= length; tick++) {
                changes[tick] = 0;
            }
            for (int i = first; i < count && commands[i] < time; i++) {
                if (times[i] > command) {
                    changes[Math.max(commands[i] - command, 0)]++;
                    changes[Math.min(times[i] - command, length)]--;
                }
            }
            int moving = 1;
            for (int tick = 0; tick < length; tick++) {
                moving += changes[tick];
                if (moving > powerLimit) {
                    return true;
                }
            }
            return false;
        }
    }

    /** A pattern without steps is one that is missing, as a text without items is refused. */
    private static final class Pattern {
        final int[] steps = new int[MAX_STEPS];
        int length = 0;

        boolean isMissing() {
            return length == 0;
        }

        int strokesOf(int bellSet) {
            int strokes = 0;
            for (int step = 0; step < length; step++) {
                strokes += Integer.bitCount(steps[step] & bellSet);
            }
            return strokes;
        }
    }

    private static final class Entry {
        int which = 0;
        int due = 0;
        int period = 0;
        int ticks = 1;
        int largestShift = 0;
        int latestShift = NONE;
    }

    /** Holds the text buffer, and reads patterns from it. */
    private static final class PatternReader {
        final int[] text = new int[MAX_TEXT];
        int textLength = 0;
        final int[] steps = new int[MAX_STEPS];
        int length = 0;
        int error = 0;
        int errorPosition = NONE;
        private int end = 0;
        private int position = 0;
        private int depth = 0;
        private final int[] groupPosition = new int[MAX_DEPTH];
        private final int[] groupStart = new int[MAX_DEPTH];

        void append(int bytes) {
            for (int shift = 24; shift >= 0 && textLength < MAX_TEXT; shift -= 8) {
                text[textLength] = bytes >>> shift & 255;
                textLength++;
            }
        }

        void read(int n) {
            end = Math.min(n, textLength);
            position = 0;
            depth = 0;
            length = 0;
            error = 0;
            errorPosition = NONE;
            // Each turn reads one character at least, or finds an error.
            for (int turn = 0; turn < MAX_TEXT && position < end && error == 0; turn++) {
                readNext();
            }
            if (error == 0 && depth > 0) {
                fail(BAD_CHARACTER, end);
            } else if (error == 0 && length == 0) {
                fail(NO_ITEMS, end);
            }
        }

        private void fail(int code, int at) {
            error = code;
            errorPosition = at;
        }

        private void readNext() {
            int sign = signAt(position);
            if (sign == ' ') {
                position++;
            } else if (sign == '(') {
                openGroup();
            } else if (sign == ')') {
                closeGroup();
            } else if (sign == '-' || isLetter(sign)) {
                readStep();
            } else {
                fail(BAD_CHARACTER, position);
            }
        }

        /** Behind the end stands no sign. */
        private int signAt(int at) {
            return at >= 0 && at < end ? text[at] : NONE;
        }

        private static boolean isLetter(int sign) {
            return sign >= 'a' && sign <= 'l';
        }

        private static boolean isDigit(int sign) {
            return sign >= '0' && sign <= '9';
        }

        private void readStep() {
            int start = position;
            int bells = 0;
            if (signAt(position) == '-') {
                position++;
            } else {
                for (; position < end && isLetter(signAt(position)); position++) {
                    bells |= 1 << signAt(position) - 'a';
                }
            }
            int number = isDigit(signAt(position)) ? readNumber() : 1;
            if (error == 0 && length + number > MAX_STEPS) {
                fail(TOO_LONG, start);
            }
            for (int i = 0; i < number && error == 0; i++) {
                steps[length] = i == 0 ? bells : 0;
                length++;
            }
        }

        private int readNumber() {
            int start = position;
            int number = 0;
            for (; position < start + 2 && isDigit(signAt(position)); position++) {
                number = number * 10 + signAt(position) - '0';
            }
            if (number < 1 || number > MAX_NUMBER) {
                fail(BAD_NUMBER, start);
            }
            return number;
        }

        private void openGroup() {
            if (depth >= MAX_DEPTH) {
                fail(TOO_DEEP, position);
                return;
            }
            groupPosition[depth] = position;
            groupStart[depth] = length;
            depth++;
            position++;
        }

        private void closeGroup() {
            if (depth < 1) {
                fail(BAD_CHARACTER, position);
                return;
            }
            depth--;
            if (length == groupStart[depth]) {
                fail(NO_ITEMS, position);
                return;
            }
            position++;
            if (!isDigit(signAt(position))) {
                fail(BAD_CHARACTER, position);
                return;
            }
            int number = readNumber();
            if (error == 0) {
                repeatGroup(depth, number);
            }
        }

        private void repeatGroup(int group, int number) {
            int start = groupStart[group];
            int size = length - start;
            if (start + size * number > MAX_STEPS) {
                fail(TOO_LONG, groupPosition[group]);
                return;
            }
            for (int i = 1; i < number; i++) {
                System.arraycopy(steps, start, steps, length, size);
                length += size;
            }
        }
    }
}
