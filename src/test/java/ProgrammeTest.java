/** Promises 31 to 36: the programme. */
public final class ProgrammeTest {
    private static void addEntry() {
        BellController x = new BellController();
        for (int which : new int[] {-1, 5, Integer.MIN_VALUE, Integer.MAX_VALUE}) {
            Check.due("addEntry", x.addEntry(which, -1, 1, 0, -1), Check.NO_SUCH);
        }
        for (int time : new int[] {-1, 100001, Integer.MIN_VALUE, Integer.MAX_VALUE}) {
            Check.due("addEntry", x.addEntry(0, time, 0, 1, 0), Check.BAD_VALUE);
        }
        for (int period : new int[] {-1, 1, 199, 50001, Integer.MIN_VALUE, Integer.MAX_VALUE}) {
            Check.due("addEntry", x.addEntry(0, 0, period, 1, 0), Check.BAD_VALUE);
        }
        for (int ticks : new int[] {-1, 0, 201, Integer.MIN_VALUE, Integer.MAX_VALUE}) {
            Check.due("addEntry", x.addEntry(0, 0, 0, ticks, 0), Check.BAD_VALUE);
        }
        for (int shift : new int[] {-1, 501, Integer.MIN_VALUE, Integer.MAX_VALUE}) {
            Check.due("addEntry", x.addEntry(0, 0, 0, 1, shift), Check.BAD_VALUE);
        }
        Check.due("entryCount()", x.entryCount(), 0);
        Check.due("addEntry", x.addEntry(0, 0, 0, 1, 0), 0);
        Check.due("addEntry", x.addEntry(4, 100000, 50000, 200, 500), 1);
        Check.due("addEntry", x.addEntry(1, 7, 200, 1, 0), 2);
        for (int number = 3; number < 8; number++) {
            Check.due("entryCount()", x.entryCount(), number);
            Check.due("addEntry", x.addEntry(2, 1000 + number, 0, 1, 0), number);
        }
        Check.due("addEntry to 8", x.addEntry(0, 0, 0, 1, 0), Check.FULL);
        Check.due("a wrong addEntry to 8", x.addEntry(0, 0, 0, 0, 0), Check.BAD_VALUE);
        Check.due("entryCount()", x.entryCount(), 8);
        Check.due("dueTime(1)", x.dueTime(1), 100000);
        Check.due("dueTime(7)", x.dueTime(7), 1007);
        Check.due("failureCount()", x.failureCount(), 0);
    }

    private static void removeEntry() {
        BellController x = new BellController();
        Check.due("removeEntry(0)", x.removeEntry(0), Check.NO_SUCH);
        for (int number = 0; number < 4; number++) {
            x.addEntry(0, 1000 + number, 0, 1, 0);
        }
        for (int entry : new int[] {-1, 4, 8, Integer.MIN_VALUE, Integer.MAX_VALUE}) {
            Check.due("removeEntry", x.removeEntry(entry), Check.NO_SUCH);
            Check.due("dueTime", x.dueTime(entry), Check.NO_SUCH);
            Check.due("lastShift", x.lastShift(entry), Check.NO_SUCH);
        }
        Check.due("removeEntry(1)", x.removeEntry(1), 3);
        Check.due("dueTime(0)", x.dueTime(0), 1000);
        Check.due("dueTime(1)", x.dueTime(1), 1002);
        Check.due("dueTime(2)", x.dueTime(2), 1003);
        Check.due("dueTime(3)", x.dueTime(3), Check.NO_SUCH);
        Check.due("removeEntry(2)", x.removeEntry(2), 2);
        Check.due("addEntry", x.addEntry(0, 1010, 0, 1, 0), 2);
        Check.due("dueTime(2)", x.dueTime(2), 1010);
        Check.due("removeEntry(0)", x.removeEntry(0), 2);
        Check.due("dueTime(0)", x.dueTime(0), 1002);
        Check.due("dueTime(1)", x.dueTime(1), 1010);
        Check.due("failureCount()", x.failureCount(), 0);
    }

    private static void dueEntries() {
        BellController x = new BellController();
        x.addBell(10, 20, 1, 10);
        Check.load(x, 0, "a-a");
        x.addEntry(0, 150, 200, 15, 40);
        x.advance(49);
        Check.due("too early", x.scheduledCount(), 0);
        Check.due("lastShift(0)", x.lastShift(0), Check.NONE);
        x.advance(1);
        Check.due("scheduledCount()", x.scheduledCount(), 2);
        Check.due("nextStroke(0)", x.nextStroke(0), 150);
        Check.due("lastShift(0)", x.lastShift(0), 0);
        Check.due("dueTime(0)", x.dueTime(0), 350);
        x.scheduleStroke(0, 350);
        x.advance(200);
        Check.due("woven behind the stroke at 350", x.lastShift(0), 30);
        Check.due("dueTime(0)", x.dueTime(0), 550);
        Check.due("scheduledCount()", x.scheduledCount(), 3);
        x.scheduleStroke(0, 550);
        x.scheduleStroke(0, 590);
        x.advance(200);
        Check.due("not woven, as it would take a shift of 70", x.lastShift(0), Check.NONE);
        Check.due("failureCount()", x.failureCount(), 1);
        Check.due("dueTime(0)", x.dueTime(0), 750);
        x.advance(200);
        Check.due("lastShift(0)", x.lastShift(0), 0);
        Check.due("failureCount()", x.failureCount(), 1);
    }

    /** An entry that is due already waits for the next tick, and comes once a tick. */
    private static void lateEntries() {
        BellController x = Check.quickBells(1);
        Check.load(x, 1, "a");
        x.advance(1000);
        x.addEntry(1, 600, 200, 1, 0);
        x.advance(0);
        Check.due("dueTime(0)", x.dueTime(0), 600);
        int[] due = {800, 1000, 1200, 1200};
        int[] failed = {1, 2, 3, 3};
        for (int tick = 0; tick < 4; tick++) {
            x.advance(1);
            Check.due("dueTime(0)", x.dueTime(0), due[tick]);
            Check.due("failureCount()", x.failureCount(), failed[tick]);
        }
        x.addEntry(1, 990, 0, 1, 15);
        Check.due("advance(1)", x.advance(1), 0);
        Check.due("entryCount()", x.entryCount(), 1);
        Check.due("failed", x.failureCount(), 4);
        x.addEntry(1, 990, 300, 1, 17);
        Check.due("advance(1)", x.advance(1), 0);
        Check.due("lastShift(1)", x.lastShift(1), 17);
        Check.due("advance(1)", x.advance(1), 1);
        Check.due("recordTime(0)", x.recordTime(0), 1007);
    }

    /** Each entry comes once at a tick, though entries before it are removed at that tick. */
    private static void removedOnTheWay() {
        BellController x = Check.quickBells(12);
        Check.load(x, 0, "a");
        Check.load(x, 1, "b");
        x.addEntry(0, 50, 0, 1, 0);
        x.addEntry(2, 50, 0, 1, 0);
        x.addEntry(1, 50, 200, 1, 0);
        x.addEntry(0, 50, 0, 1, 3);
        x.addEntry(0, 500, 0, 1, 0);
        x.addEntry(3, 50, 200, 1, 0);
        x.advance(1);
        Check.due("entryCount()", x.entryCount(), 3);
        Check.due("dueTime(0)", x.dueTime(0), 250);
        Check.due("dueTime(1)", x.dueTime(1), 500);
        Check.due("dueTime(2)", x.dueTime(2), 250);
        Check.due("lastShift(0)", x.lastShift(0), 0);
        Check.due("lastShift(1)", x.lastShift(1), Check.NONE);
        Check.due("lastShift(2)", x.lastShift(2), Check.NONE);
        Check.due("failureCount()", x.failureCount(), 2);
        Check.due("scheduledCount()", x.scheduledCount(), 3);
        // entry 0 took the time 50 first, which left a later one to entry 3
        Check.due("entries in their order", x.commandTime(2), 50);
        Check.due("removeEntry(2)", x.removeEntry(2), 2);
        Check.due("failureCount()", x.failureCount(), 2);
        Check.due("removeEntry(0)", x.removeEntry(0), 1);
        for (int number = 1; number < 8; number++) {
            Check.due("addEntry", x.addEntry(0, 1000, 0, 1, 0), number);
            Check.due("a new entry", x.lastShift(number), Check.NONE);
        }
        Check.due("dueTime(0)", x.dueTime(0), 500);
    }

    private static void lastDueTime() {
        BellController x = Check.quickBells(1);
        Check.load(x, 0, "a");
        for (int i = 0; i < 49; i++) {
            x.advance(2000);
        }
        x.addEntry(0, 98100, 1900, 1, 0);
        x.addEntry(0, 98101, 1900, 1, 0);
        x.advance(1);
        Check.due("entryCount()", x.entryCount(), 1);
        Check.due("dueTime(0)", x.dueTime(0), 100000);
        Check.due("advance(1899)", x.advance(1899), 2);
        Check.due("entryCount()", x.entryCount(), 0);
        Check.due("advance(100)", x.advance(100), 1);
        Check.due("recordTime(0)", x.recordTime(0), 100000);
    }

    /** The entries come after the strokes and turns of their tick. */
    private static void afterTheTurns() {
        BellController x = new BellController();
        x.addBell(10, 5, 1, 10);
        Check.load(x, 0, "a");
        x.startSwing(0, 5);
        x.stopMotor(0);
        x.addEntry(0, 110, 0, 1, 0);
        x.addEntry(0, 109, 200, 1, 0);
        x.advance(9);
        Check.due("failed while it swings", x.failureCount(), 1);
        Check.due("entryCount()", x.entryCount(), 2);
        x.advance(1);
        Check.due("amplitude(0)", x.amplitude(0), Check.NONE);
        Check.due("failureCount()", x.failureCount(), 1);
        Check.due("nextStroke(0)", x.nextStroke(0), 110);
        x.advance(90);
        x.addEntry(0, 115, 200, 1, 30);
        x.advance(1);
        // [100, 115) is occupied, and the command can't be earlier than now, 101
        Check.due("lastShift(1)", x.lastShift(1), 10);
        Check.due("advance(25)", x.advance(25), 2);
    }

    public static void main(String[] args) {
        addEntry();
        removeEntry();
        dueEntries();
        lateEntries();
        removedOnTheWay();
        lastDueTime();
        afterTheTurns();
        Check.end();
    }
}
