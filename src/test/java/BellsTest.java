/** Promises 1 to 6: a new object, bells, their delays, and the power limit. */
public final class BellsTest {
    private static void newObject() {
        BellController used = Check.quickBells(3);
        Check.load(used, 0, "ab");
        used.play(0, 5, 5);
        used.advance(20);
        BellController x = new BellController();
        Check.due("bellCount()", x.bellCount(), 0);
        Check.due("currentTime()", x.currentTime(), 0);
        Check.due("scheduledCount()", x.scheduledCount(), 0);
        Check.due("recordLength()", x.recordLength(), 0);
        Check.due("entryCount()", x.entryCount(), 0);
        Check.due("failureCount()", x.failureCount(), 0);
        Check.due("patternError()", x.patternError(), 0);
        Check.due("patternErrorPosition()", x.patternErrorPosition(), Check.NONE);
        for (int which = 0; which < 5; which++) {
            Check.due("stepBells", x.stepBells(which, 0), Check.MISSING);
        }
        Check.due("loadPattern(0, 1)", x.loadPattern(0, 1), Check.BAD_VALUE);
        Check.due("appendBytes", x.appendBytes(0, 0, 0, 0, 0), 20);
        Check.due("shake(0)", x.shake(0), 100000);
        Check.due("setPowerLimit(3)", x.setPowerLimit(3), 3);
        Check.due("setShakeLimit(2000)", x.setShakeLimit(2000), 2000);
    }

    private static void addBell() {
        BellController x = new BellController();
        int[][] wrong = {{0, 0, 1, 10}, {51, 0, 1, 10}, {1, -1, 1, 10}, {1, 101, 1, 10}, {1, 0, 0, 10},
            {1, 0, 100, 10}, {1, 0, 1, 9}, {1, 0, 1, 61}};
        for (int[] bell : wrong) {
            Check.due("addBell", x.addBell(bell[0], bell[1], bell[2], bell[3]), Check.BAD_VALUE);
        }
        for (int far : Check.FAR) {
            Check.due("addBell", x.addBell(far, 0, 1, 10), Check.BAD_VALUE);
            Check.due("addBell", x.addBell(1, far, 1, 10), Check.BAD_VALUE);
            Check.due("addBell", x.addBell(1, 0, far, 10), Check.BAD_VALUE);
            Check.due("addBell", x.addBell(1, 0, 1, far), Check.BAD_VALUE);
        }
        Check.due("bellCount()", x.bellCount(), 0);
        Check.due("addBell(1, 0, 1, 10)", x.addBell(1, 0, 1, 10), 0);
        Check.due("addBell(50, 100, 99, 60)", x.addBell(50, 100, 99, 60), 1);
        for (int number = 2; number < 12; number++) {
            Check.due("bellCount()", x.bellCount(), number);
            Check.due("addBell", x.addBell(number, 0, 1, 10), number);
        }
        Check.due("addBell to 12 bells", x.addBell(1, 0, 1, 10), Check.FULL);
        Check.due("a wrong addBell to 12 bells", x.addBell(0, 0, 1, 10), Check.BAD_VALUE);
        Check.due("bellCount()", x.bellCount(), 12);
        Check.due("delay(11)", x.delay(11), 11);
    }

    /** Each property of a bell shows in what the bell does. */
    private static void properties() {
        BellController x = new BellController();
        x.addBell(50, 100, 99, 60);
        Check.due("scheduleStroke(0, 60)", x.scheduleStroke(0, 60), 10);
        Check.due("scheduleStroke(0, 209)", x.scheduleStroke(0, 209), Check.CLASH);
        Check.due("scheduleStroke(0, 210)", x.scheduleStroke(0, 210), 160);
        x.advance(210);
        Check.due("startSwing(0, 1000)", x.startSwing(0, 1000), 270);
        x.advance(60);
        Check.due("force(0)", x.force(0), 100000 - 99 * 80 / 100);
    }

    private static void delay() {
        BellController x = new BellController();
        Check.due("delay(0)", x.delay(0), Check.NO_SUCH);
        x.addBell(7, 0, 1, 10);
        x.addBell(50, 0, 1, 10);
        Check.due("delay(0)", x.delay(0), 7);
        Check.due("delay(1)", x.delay(1), 50);
        Check.due("delay(2)", x.delay(2), Check.NO_SUCH);
        Check.due("delay(-1)", x.delay(-1), Check.NO_SUCH);
        for (int far : Check.FAR) {
            Check.due("delay", x.delay(far), Check.NO_SUCH);
        }
    }

    private static void calibrate() {
        BellController x = new BellController();
        x.addBell(10, 0, 1, 10);
        Check.due("calibrate(0, 11)", x.calibrate(0, 11), 10);
        Check.due("calibrate(0, 12)", x.calibrate(0, 12), 11);
        Check.due("delay(0)", x.delay(0), 11);
        Check.due("calibrate(0, 0)", x.calibrate(0, 0), Check.BAD_VALUE);
        Check.due("calibrate(0, 51)", x.calibrate(0, 51), Check.BAD_VALUE);
        Check.due("calibrate(1, 10)", x.calibrate(1, 10), Check.NO_SUCH);
        Check.due("calibrate(-1, 10)", x.calibrate(-1, 10), Check.NO_SUCH);
        Check.due("calibrate(1, 0)", x.calibrate(1, 0), Check.NO_SUCH);
        for (int far : Check.FAR) {
            Check.due("calibrate", x.calibrate(0, far), Check.BAD_VALUE);
            Check.due("calibrate", x.calibrate(far, 1), Check.NO_SUCH);
        }
        Check.due("delay(0)", x.delay(0), 11);
        Check.due("calibrate(0, 1)", x.calibrate(0, 1), 9);
        Check.due("calibrate(0, 50)", x.calibrate(0, 50), 19);
        x.addBell(1, 0, 1, 10);
        x.addBell(50, 0, 1, 10);
        Check.due("calibrate(1, 1)", x.calibrate(1, 1), 1);
        Check.due("calibrate(2, 50)", x.calibrate(2, 50), 50);
    }

    private static void calibratedStrokes() {
        BellController x = new BellController();
        x.addBell(10, 0, 1, 10);
        x.scheduleStroke(0, 30);
        Check.due("calibrate(0, 50)", x.calibrate(0, 50), 20);
        Check.due("commandTime(0)", x.commandTime(0), 20);
        Check.due("movingHammers(19)", x.movingHammers(19), 0);
        Check.due("movingHammers(20)", x.movingHammers(20), 1);
        Check.due("scheduleStroke(0, 20)", x.scheduleStroke(0, 20), 0);
        Check.due("scheduleStroke(0, 49)", x.scheduleStroke(0, 49), Check.CLASH);
        Check.due("scheduleStroke(0, 50)", x.scheduleStroke(0, 50), 30);
    }

    private static void setPowerLimit() {
        BellController x = Check.quickBells(12);
        Check.due("setPowerLimit(0)", x.setPowerLimit(0), Check.BAD_VALUE);
        Check.due("setPowerLimit(13)", x.setPowerLimit(13), Check.BAD_VALUE);
        for (int far : Check.FAR) {
            Check.due("setPowerLimit", x.setPowerLimit(far), Check.BAD_VALUE);
        }
        Check.due("setPowerLimit(12)", x.setPowerLimit(12), 3);
        for (int bell = 0; bell < 11; bell++) {
            Check.due("scheduleStroke", x.scheduleStroke(bell, 5), 4);
        }
        Check.due("setPowerLimit(11)", x.setPowerLimit(11), 12);
        Check.due("scheduleStroke(11, 5)", x.scheduleStroke(11, 5), Check.POWER);
        Check.due("setPowerLimit(1)", x.setPowerLimit(1), 11);
        Check.due("movingHammers(4)", x.movingHammers(4), 11);
        Check.due("a stroke where none moves", x.scheduleStroke(0, 6), 5);
        Check.due("scheduleStroke(1, 6)", x.scheduleStroke(1, 6), Check.POWER);
        Check.due("setPowerLimit(1)", x.setPowerLimit(1), 1);
        Check.due("advance(10)", x.advance(10), 12);
    }

    public static void main(String[] args) {
        newObject();
        addBell();
        properties();
        delay();
        calibrate();
        calibratedStrokes();
        setPowerLimit();
        Check.end();
    }
}
