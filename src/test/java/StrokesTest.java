/** Promises 13 to 20: hammer strokes. */
public final class StrokesTest {
    private static void schedule() {
        BellController x = new BellController();
        Check.due("scheduleStroke(0, 5)", x.scheduleStroke(0, 5), Check.NO_SUCH);
        Check.due("scheduleStroke(0, -1)", x.scheduleStroke(0, -1), Check.NO_SUCH);
        x.addBell(10, 5, 1, 10);
        Check.due("scheduleStroke(-1, 5)", x.scheduleStroke(-1, 5), Check.NO_SUCH);
        Check.due("scheduleStroke(1, 50)", x.scheduleStroke(1, 50), Check.NO_SUCH);
        Check.due("scheduleStroke(0, -1)", x.scheduleStroke(0, -1), Check.BAD_VALUE);
        Check.due("scheduleStroke(0, 100001)", x.scheduleStroke(0, 100001), Check.BAD_VALUE);
        for (int far : Check.FAR) {
            Check.due("scheduleStroke", x.scheduleStroke(0, far), Check.BAD_VALUE);
            Check.due("scheduleStroke", x.scheduleStroke(far, 50), Check.NO_SUCH);
        }
        Check.due("scheduleStroke(0, 0)", x.scheduleStroke(0, 0), Check.TOO_LATE);
        Check.due("scheduleStroke(0, 100000)", x.scheduleStroke(0, 100000), 99990);
        Check.due("scheduleStroke(0, 10)", x.scheduleStroke(0, 10), 0);
        Check.due("scheduledCount()", x.scheduledCount(), 2);
    }

    private static void clash() {
        BellController x = new BellController();
        x.addBell(10, 5, 1, 10);
        x.scheduleStroke(0, 50);
        Check.due("at the same time", x.scheduleStroke(0, 50), Check.CLASH);
        Check.due("one tick too near behind", x.scheduleStroke(0, 64), Check.CLASH);
        Check.due("right behind", x.scheduleStroke(0, 65), 55);
        Check.due("one tick too near before", x.scheduleStroke(0, 36), Check.CLASH);
        Check.due("right before", x.scheduleStroke(0, 35), 25);
        x.advance(50);
        // the stroke that sounded occupies the hammer up to 55
        x.cancelStroke(0, 65);
        Check.due("behind a sounded stroke", x.scheduleStroke(0, 64), Check.CLASH);
        Check.due("behind a sounded stroke", x.scheduleStroke(0, 65), 55);
        Check.due("cancelStroke", x.cancelStroke(0, 65), 0);
        Check.due("after a cancelled stroke", x.scheduleStroke(0, 70), 60);
    }

    private static void longHolds() {
        BellController x = new BellController();
        x.addBell(50, 100, 1, 10);
        x.addBell(1, 0, 1, 10);
        x.setPowerLimit(12);
        x.scheduleStroke(0, 100);
        for (int time = 60; time < 210; time++) {
            x.scheduleStroke(1, time);
        }
        Check.due("scheduleStroke(0, 249)", x.scheduleStroke(0, 249), Check.CLASH);
        Check.due("scheduleStroke(0, 250)", x.scheduleStroke(0, 250), 200);
        x.addBell(50, 100, 1, 10);
        x.scheduleStroke(2, 400);
        Check.due("scheduleStroke(2, 251)", x.scheduleStroke(2, 251), Check.CLASH);
        Check.due("scheduleStroke(2, 250)", x.scheduleStroke(2, 250), 200);
    }

    private static void power() {
        BellController x = new BellController();
        x.addBell(10, 0, 1, 10);
        x.addBell(10, 0, 1, 10);
        x.addBell(50, 0, 1, 10);
        x.addBell(1, 0, 1, 10);
        x.addBell(3, 0, 1, 10);
        x.scheduleStroke(0, 60);
        x.scheduleStroke(1, 69);
        x.scheduleStroke(2, 100);
        // [50, 60), [59, 69) and [50, 100): all three move at 59 alone
        Check.due("movingHammers(58)", x.movingHammers(58), 2);
        Check.due("movingHammers(59)", x.movingHammers(59), 3);
        Check.due("movingHammers(60)", x.movingHammers(60), 2);
        Check.due("scheduleStroke(3, 60)", x.scheduleStroke(3, 60), Check.POWER);
        Check.due("scheduleStroke(4, 62)", x.scheduleStroke(4, 62), Check.POWER);
        Check.due("scheduleStroke(4, 60)", x.scheduleStroke(4, 60), Check.POWER);
        Check.due("scheduleStroke(3, 59)", x.scheduleStroke(3, 59), 58);
        Check.due("scheduleStroke(4, 63)", x.scheduleStroke(4, 63), 60);
        x.setPowerLimit(4);
        Check.due("scheduleStroke(3, 60)", x.scheduleStroke(3, 60), 59);
        Check.due("movingHammers(59)", x.movingHammers(59), 4);
    }

    private static void full() {
        BellController x = Check.quickBells(2);
        for (int time = 10; time < 310; time++) {
            Check.due("scheduleStroke", x.scheduleStroke(0, time), time - 1);
            if (time % 10 == 0) {
                Check.due("scheduledCount()", x.scheduledCount(), time - 9);
            }
        }
        Check.due("scheduleStroke(1, 5)", x.scheduleStroke(1, 5), Check.FULL);
        Check.due("a clash when full", x.scheduleStroke(0, 50), Check.FULL);
        Check.due("too late when full", x.scheduleStroke(0, 0), Check.TOO_LATE);
        Check.due("earliestStroke(1, 0)", x.earliestStroke(1, 0), Check.FULL);
        Check.due("earliestStroke(1, -1)", x.earliestStroke(1, -1), Check.BAD_VALUE);
        Check.due("startSwing(1, 5)", x.startSwing(1, 5), 10);
        Check.due("swinging when full", x.scheduleStroke(1, 5), Check.SWINGING);
        Check.due("swinging when full", x.earliestStroke(1, 5), Check.SWINGING);
        Check.due("scheduledCount()", x.scheduledCount(), 300);
        Check.due("cancelStroke(0, 200)", x.cancelStroke(0, 200), 299);
        Check.due("scheduleStroke(0, 400)", x.scheduleStroke(0, 400), 399);
        Check.due("commandTime(299)", x.commandTime(299), 399);
        Check.due("commandTime(300)", x.commandTime(300), Check.NONE);
        Check.due("advance(10)", x.advance(10), 1);
        Check.due("scheduledCount()", x.scheduledCount(), 299);
    }

    /** The errors come in the order in which the document names them. */
    private static void errorOrder() {
        BellController x = new BellController();
        x.addBell(10, 20, 1, 10);
        x.addBell(10, 20, 1, 10);
        x.setPowerLimit(1);
        x.scheduleStroke(0, 30);
        Check.due("clash before power", x.scheduleStroke(0, 30), Check.CLASH);
        Check.due("power", x.scheduleStroke(1, 30), Check.POWER);
        x.advance(25);
        Check.due("too late before clash", x.scheduleStroke(0, 30), Check.TOO_LATE);
        x.startSwing(1, 100);
        Check.due("swinging before too late", x.scheduleStroke(1, 20), Check.SWINGING);
        Check.due("value before swinging", x.scheduleStroke(1, 100001), Check.BAD_VALUE);
    }

    private static void cancel() {
        BellController x = new BellController();
        x.addBell(10, 0, 1, 10);
        x.addBell(5, 0, 1, 10);
        x.scheduleStroke(0, 20);
        x.scheduleStroke(1, 20);
        x.scheduleStroke(0, 40);
        Check.due("cancelStroke(2, 20)", x.cancelStroke(2, 20), Check.NO_SUCH);
        Check.due("cancelStroke(-1, 20)", x.cancelStroke(-1, 20), Check.NO_SUCH);
        Check.due("cancelStroke(0, 21)", x.cancelStroke(0, 21), Check.NO_SUCH);
        Check.due("cancelStroke(1, 40)", x.cancelStroke(1, 40), Check.NO_SUCH);
        Check.due("cancelStroke at a command time", x.cancelStroke(0, 10), Check.NO_SUCH);
        for (int far : Check.FAR) {
            Check.due("cancelStroke", x.cancelStroke(0, far), Check.NO_SUCH);
            Check.due("cancelStroke", x.cancelStroke(far, 20), Check.NO_SUCH);
        }
        x.advance(9);
        Check.due("cancelStroke(0, 20)", x.cancelStroke(0, 20), 2);
        Check.due("cancelStroke(0, 20)", x.cancelStroke(0, 20), Check.NO_SUCH);
        x.advance(6);
        Check.due("at its command", x.cancelStroke(1, 20), Check.TOO_LATE);
        x.advance(4);
        Check.due("while it moves", x.cancelStroke(1, 20), Check.TOO_LATE);
        Check.due("advance(1)", x.advance(1), 1);
        Check.due("when it has sounded", x.cancelStroke(1, 20), Check.NO_SUCH);
        Check.due("cancelStroke(0, 40)", x.cancelStroke(0, 40), 0);
        Check.due("advance(100)", x.advance(100), 0);
    }

    private static void lists() {
        BellController x = new BellController();
        x.addBell(20, 0, 1, 10);
        x.addBell(5, 0, 1, 10);
        x.addBell(10, 0, 1, 10);
        Check.due("nextStroke(0)", x.nextStroke(0), Check.NONE);
        x.scheduleStroke(1, 100);
        x.scheduleStroke(2, 40);
        x.scheduleStroke(1, 35);
        x.scheduleStroke(0, 50);
        x.scheduleStroke(0, 90);
        // commands: 1 at 95, 2 at 30, 1 at 30, 0 at 30, 0 at 70
        int[] times = {30, 30, 30, 70, 95};
        int[] bells = {0, 1, 2, 0, 1};
        for (int i = 0; i < 5; i++) {
            Check.due("commandTime(" + i + ")", x.commandTime(i), times[i]);
            Check.due("commandBell(" + i + ")", x.commandBell(i), bells[i]);
        }
        for (int index : new int[] {5, 6, Integer.MAX_VALUE}) {
            Check.due("commandTime", x.commandTime(index), Check.NONE);
            Check.due("commandBell", x.commandBell(index), Check.NONE);
        }
        for (int index : new int[] {-1, Integer.MIN_VALUE}) {
            Check.due("commandTime", x.commandTime(index), Check.BAD_VALUE);
            Check.due("commandBell", x.commandBell(index), Check.BAD_VALUE);
        }
        Check.due("scheduledCount()", x.scheduledCount(), 5);
        Check.due("nextStroke(0)", x.nextStroke(0), 50);
        Check.due("nextStroke(1)", x.nextStroke(1), 35);
        Check.due("nextStroke(2)", x.nextStroke(2), 40);
        for (int bell : new int[] {-1, 3, 11, Integer.MIN_VALUE, Integer.MAX_VALUE}) {
            Check.due("nextStroke", x.nextStroke(bell), Check.NO_SUCH);
        }
        Check.due("advance(50)", x.advance(50), 3);
        Check.due("recordBell(0)", x.recordBell(0), 0);
        Check.due("recordBell(1)", x.recordBell(1), 2);
        Check.due("recordBell(2)", x.recordBell(2), 1);
        Check.due("nextStroke(0)", x.nextStroke(0), 90);
        Check.due("nextStroke(2)", x.nextStroke(2), Check.NONE);
        Check.due("commandBell(0)", x.commandBell(0), 0);
        Check.due("commandTime(1)", x.commandTime(1), 95);
        Check.due("scheduledCount()", x.scheduledCount(), 2);
    }

    private static void moving() {
        BellController x = new BellController();
        x.addBell(10, 30, 1, 10);
        x.scheduleStroke(0, 20);
        x.scheduleStroke(0, 100000);
        Check.due("movingHammers(9)", x.movingHammers(9), 0);
        Check.due("movingHammers(10)", x.movingHammers(10), 1);
        Check.due("movingHammers(19)", x.movingHammers(19), 1);
        Check.due("movingHammers(20)", x.movingHammers(20), 0);
        Check.due("movingHammers(99999)", x.movingHammers(99999), 1);
        Check.due("movingHammers(100000)", x.movingHammers(100000), 0);
        Check.due("movingHammers(100001)", x.movingHammers(100001), Check.BAD_VALUE);
        x.advance(15);
        Check.due("movingHammers(14)", x.movingHammers(14), Check.BAD_VALUE);
        Check.due("movingHammers(15)", x.movingHammers(15), 1);
        for (int far : Check.FAR) {
            Check.due("movingHammers", x.movingHammers(far), Check.BAD_VALUE);
        }
        x.advance(5);
        Check.due("movingHammers(20)", x.movingHammers(20), 0);
    }

    private static void earliest() {
        BellController x = new BellController();
        Check.due("earliestStroke(0, 0)", x.earliestStroke(0, 0), Check.NO_SUCH);
        x.addBell(10, 20, 1, 10);
        x.addBell(4, 0, 1, 10);
        Check.due("earliestStroke(0, 0)", x.earliestStroke(0, 0), 10);
        Check.due("earliestStroke(0, 11)", x.earliestStroke(0, 11), 11);
        Check.due("scheduledCount()", x.scheduledCount(), 0);
        x.scheduleStroke(0, 50);
        Check.due("before another", x.earliestStroke(0, 20), 20);
        Check.due("behind another", x.earliestStroke(0, 21), 80);
        x.setPowerLimit(1);
        Check.due("without power", x.earliestStroke(1, 41), 54);
        Check.due("earliestStroke(1, 40)", x.earliestStroke(1, 40), 40);
        Check.due("earliestStroke(0, -1)", x.earliestStroke(0, -1), Check.BAD_VALUE);
        Check.due("earliestStroke(0, 100001)", x.earliestStroke(0, 100001), Check.BAD_VALUE);
        Check.due("earliestStroke(0, 100000)", x.earliestStroke(0, 100000), 100000);
        Check.due("earliestStroke(2, -1)", x.earliestStroke(2, -1), Check.NO_SUCH);
        for (int far : Check.FAR) {
            Check.due("earliestStroke", x.earliestStroke(0, far), Check.BAD_VALUE);
            Check.due("earliestStroke", x.earliestStroke(far, 0), Check.NO_SUCH);
        }
        x.scheduleStroke(0, 100000);
        Check.due("none up to 100000", x.earliestStroke(0, 99971), Check.NONE);
        Check.due("earliestStroke(0, 99970)", x.earliestStroke(0, 99970), 99970);
    }

    private static void earliestFarAway() {
        BellController x = Check.quickBells(1);
        x.advance(2000);
        x.advance(1000);
        Check.due("2000 ticks later is too early", x.earliestStroke(0, 1000), Check.NONE);
        Check.due("2000 ticks later", x.earliestStroke(0, 1001), 3001);
        x.startSwing(0, 5);
        Check.due("earliestStroke(0, 5000)", x.earliestStroke(0, 5000), Check.SWINGING);
        Check.due("earliestStroke(0, 100001)", x.earliestStroke(0, 100001), Check.BAD_VALUE);
    }

    public static void main(String[] args) {
        schedule();
        clash();
        longHolds();
        power();
        full();
        errorOrder();
        cancel();
        lists();
        moving();
        earliest();
        earliestFarAway();
        Check.end();
    }
}
