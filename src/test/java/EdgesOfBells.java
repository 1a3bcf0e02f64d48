import java.lang.reflect.Method;

/** Section 1 and promises 1 to 6: a test for each sentence that names a boundary. */
final class EdgesOfBells {
    private EdgesOfBells() { }

    static void all() {
        section1();
        promise1();
        promise2();
        promise3();
        promise4();
        promise5();
        promise6();
    }

    private static void section1() {
        Doc.says("section 1", "The current time is 0 at first", () -> {
            Check.due("currentTime()", new BellController().currentTime(), 0);
            Check.due("the tick 0", new BellController().movingHammers(0), 0);
            Check.due("no tick before", new BellController().movingHammers(-1), Check.BAD_VALUE);
        });
        Doc.says("section 1", "only advance moves it", EdgesOfBells::onlyAdvanceMovesTheTime);
        Doc.says("section 1", "There are at most 12 bells, numbered from 0", () -> {
            BellController x = new BellController();
            for (int number = 0; number < 12; number++) {
                Check.due("addBell", x.addBell(50 - number, 0, 1, 10), number);
            }
            Check.due("a thirteenth bell", x.addBell(1, 0, 1, 10), Check.FULL);
            Check.due("bellCount()", x.bellCount(), 12);
            Check.due("delay(0)", x.delay(0), 50);
            Check.due("delay(11)", x.delay(11), 39);
            Check.due("delay(12)", x.delay(12), Check.NO_SUCH);
        });
        Doc.says("section 1", "A bell has a delay from 1 to 50 ticks, a recovery from 0 to 100 ticks, "
                + "a weight from 1 to 99 and a half period from 10 to 60 ticks", () -> {
            smallestBell();
            largestBell();
        });
    }

    private static void onlyAdvanceMovesTheTime() {
        for (int value : new int[] {Integer.MIN_VALUE, -1, 0, 1, 5, 100000, Integer.MAX_VALUE}) {
            BellController x = Towers.at(Edges.fivePatterns(), 7);
            x.addEntry(0, 20, 200, 1, 500);
            x.scheduleStroke(0, 9);
            for (Method method : BellController.class.getDeclaredMethods()) {
                if (method.getModifiers() == 1 && !method.getName().equals("advance")) {
                    invoke(x, method, value);
                    Check.due("currentTime() behind " + method.getName(), x.currentTime(), 7);
                }
            }
            Check.due("advance(0)", x.advance(0), 0);
            Check.due("currentTime()", x.currentTime(), 7);
            Check.due("advance(2001)", x.advance(2001), Check.BAD_VALUE);
            Check.due("currentTime()", x.currentTime(), 7);
            x.advance(1);
            Check.due("currentTime()", x.currentTime(), 8);
        }
    }

    private static void invoke(BellController x, Method method, int value) {
        Object[] arguments = new Object[method.getParameterCount()];
        for (int i = 0; i < arguments.length; i++) {
            arguments[i] = method.getParameterTypes()[i] == int.class ? (Object) value : (Object) true;
        }
        try {
            method.invoke(x, arguments);
        } catch (ReflectiveOperationException e) {
            throw new IllegalStateException(method + " with " + value, e);
        }
    }

    private static void smallestBell() {
        BellController x = Towers.bell(1, 0, 1, 10);
        Check.due("delay(0)", x.delay(0), 1);
        Check.due("scheduleStroke(0, 1)", x.scheduleStroke(0, 1), 0);
        Check.due("the next tick", x.scheduleStroke(0, 2), 1);
        x.advance(2);
        Check.due("startSwing(0, 1000)", x.startSwing(0, 1000), 12);
        x.advance(300);
        Check.due("amplitude(0)", x.amplitude(0), 1000);
        Check.due("force(0)", x.force(0), 100000 + 10);
    }

    private static void largestBell() {
        BellController x = Towers.bell(50, 100, 99, 60);
        Check.due("delay(0)", x.delay(0), 50);
        Check.due("scheduleStroke(0, 50)", x.scheduleStroke(0, 50), 0);
        Check.due("one tick too early", x.scheduleStroke(0, 199), Check.CLASH);
        Check.due("150 ticks later", x.scheduleStroke(0, 200), 150);
        Towers.at(x, 200);
        Check.due("startSwing(0, 1000)", x.startSwing(0, 1000), 260);
        x.advance(1800);
        Check.due("amplitude(0)", x.amplitude(0), 1000);
        Check.due("force(0)", x.force(0), 100000 + 990);
    }

    private static void promise1() {
        Doc.says("promise 1", "Creates a controller without bells, patterns, strokes and record", () -> {
            BellController x = new BellController();
            Check.due("bellCount()", x.bellCount(), 0);
            Check.due("delay(0)", x.delay(0), Check.NO_SUCH);
            for (int which = 0; which < 5; which++) {
                Check.due("patternStrokes", x.patternStrokes(which), Check.MISSING);
            }
            Check.due("scheduledCount()", x.scheduledCount(), 0);
            Check.due("commandTime(0)", x.commandTime(0), Check.NONE);
            Check.due("recordLength()", x.recordLength(), 0);
            Check.due("recordTime(0)", x.recordTime(0), Check.NONE);
            Check.due("entryCount()", x.entryCount(), 0);
        });
        Doc.says("promise 1", "The text buffer is empty", () -> {
            Check.due("loadPattern(0, 1)", new BellController().loadPattern(0, 1), Check.BAD_VALUE);
            Check.due("loadPattern(0, 0)", new BellController().loadPattern(0, 0), -35);
            Check.due("appendBytes", new BellController().appendBytes(0, 0, 0, 0, 0), 20);
        });
    }

    private static void promise2() {
        Doc.says("promise 2", "- `delay`: delay of its hammer, 1 to 50", () -> Edges.range("delay", 1, 50,
                Check.BAD_VALUE, BellController::new, (x, value) -> x.addBell(value, 0, 1, 10)));
        Doc.says("promise 2", "- `recovery`: recovery of its hammer, 0 to 100", () -> Edges.range("recovery", 0, 100,
                Check.BAD_VALUE, BellController::new, (x, value) -> x.addBell(1, value, 1, 10)));
        Doc.says("promise 2", "- `weight`: weight, 1 to 99", () -> Edges.range("weight", 1, 99,
                Check.BAD_VALUE, BellController::new, (x, value) -> x.addBell(1, 0, value, 10)));
        Doc.says("promise 2", "- `halfPeriod`: half period, 10 to 60", () -> Edges.range("halfPeriod", 10, 60,
                Check.BAD_VALUE, BellController::new, (x, value) -> x.addBell(1, 0, 1, value)));
        Doc.says("promise 2", "BAD_VALUE if a parameter is out of range", () -> {
            BellController x = new BellController();
            Check.due("all too small", x.addBell(0, -1, 0, 9), Check.BAD_VALUE);
            Check.due("all too large", x.addBell(51, 101, 100, 61), Check.BAD_VALUE);
            Check.due("bellCount()", x.bellCount(), 0);
            Check.due("all smallest", x.addBell(1, 0, 1, 10), 0);
            Check.due("all largest", x.addBell(50, 100, 99, 60), 1);
        });
        Doc.says("promise 2", "FULL if there are already 12 bells", () -> {
            BellController x = Check.quickBells(11);
            Check.due("the twelfth bell", x.addBell(50, 100, 99, 60), 11);
            Check.due("a thirteenth bell", x.addBell(1, 0, 1, 10), Check.FULL);
            Check.due("and again", x.addBell(50, 100, 99, 60), Check.FULL);
            Check.due("bellCount()", x.bellCount(), 12);
            Check.due("delay(11)", x.delay(11), 50);
        });
    }

    private static void promise3() {
        Doc.says("promise 3", "Returns 0 to 12", () -> {
            BellController x = new BellController();
            for (int bells = 0; bells < 12; bells++) {
                Check.due("bellCount()", x.bellCount(), bells);
                x.addBell(0, 0, 1, 10);
                Check.due("behind a refused bell", x.bellCount(), bells);
                x.addBell(1, 0, 1, 10);
            }
            Check.due("bellCount()", x.bellCount(), 12);
            x.addBell(1, 0, 1, 10);
            Check.due("bellCount()", x.bellCount(), 12);
        });
    }

    private static void promise4() {
        Doc.says("promise 4", "NO_SUCH if the bell does not exist", () -> Edges.bells("delay", BellController::delay));
    }

    private static void promise5() {
        Doc.says("promise 5", "Corrects the delay of a bell by a measurement: the new delay is "
                + "(3 * old delay + measured delay + 2) / 4, rounded down", () -> {
            for (int old : new int[] {1, 2, 3, 25, 48, 49, 50}) {
                for (int measured : new int[] {1, 2, 3, 4, 5, 24, 25, 26, 47, 48, 49, 50}) {
                    BellController x = Towers.bell(old, 0, 1, 10);
                    int due = (int) Math.floor((3 * old + measured + 2) / 4.0);
                    Check.due("calibrate(0, " + measured + ")", x.calibrate(0, measured), due);
                    Check.due("delay(0)", x.delay(0), due);
                }
            }
            Check.due("(30 + 11 + 2) / 4", Towers.bell(10, 0, 1, 10).calibrate(0, 11), 10);
            Check.due("(30 + 12 + 2) / 4", Towers.bell(10, 0, 1, 10).calibrate(0, 12), 11);
            Check.due("(3 + 3 + 2) / 4", Towers.bell(1, 0, 1, 10).calibrate(0, 3), 2);
            Check.due("(150 + 1 + 2) / 4", Towers.bell(50, 0, 1, 10).calibrate(0, 1), 38);
        });
        Doc.says("promise 5", "Strokes that are scheduled already keep their command times", () -> {
            BellController x = Towers.bell(10, 5, 1, 10);
            x.scheduleStroke(0, 100);
            Check.due("calibrate(0, 50)", x.calibrate(0, 50), 20);
            Check.due("commandTime(0)", x.commandTime(0), 90);
            Check.due("movingHammers(89)", x.movingHammers(89), 0);
            Check.due("movingHammers(90)", x.movingHammers(90), 1);
            Check.due("a stroke up to its command", x.scheduleStroke(0, 86), Check.CLASH);
            Check.due("a stroke up to its command", x.scheduleStroke(0, 85), 65);
            Check.due("cancelStroke(0, 85)", x.cancelStroke(0, 85), 1);
            Towers.at(x, 89);
            Check.due("the old command is still to come", x.cancelStroke(0, 100), 0);
            Check.due("with the new delay it is too late", x.scheduleStroke(0, 100), Check.TOO_LATE);
        });
        Doc.says("promise 5", "- `measured`: measured delay, 1 to 50", () -> Edges.range("measured", 1, 50,
                Check.BAD_VALUE, () -> Check.quickBells(1), (x, value) -> x.calibrate(0, value)));
        Doc.says("promise 5", "NO_SUCH if the bell does not exist", () -> Edges.bells("calibrate",
                (x, value) -> x.calibrate(value, 50)));
        Doc.says("promise 5", "BAD_VALUE if measured is out of range", () -> {
            BellController x = Towers.bell(10, 0, 1, 10);
            Check.due("calibrate(0, 0)", x.calibrate(0, 0), Check.BAD_VALUE);
            Check.due("calibrate(0, 51)", x.calibrate(0, 51), Check.BAD_VALUE);
            Check.due("delay(0)", x.delay(0), 10);
        });
    }

    private static void promise6() {
        Doc.says("promise 6", "It does not matter for strokes that are scheduled already, "
                + "except that they are counted", () -> {
            BellController x = Check.quickBells(4);
            for (int bell = 0; bell < 3; bell++) {
                x.scheduleStroke(bell, 5);
            }
            Check.due("setPowerLimit(1)", x.setPowerLimit(1), 3);
            Check.due("scheduledCount()", x.scheduledCount(), 3);
            Check.due("movingHammers(4)", x.movingHammers(4), 3);
            Check.due("they are counted", x.scheduleStroke(3, 5), Check.POWER);
            Check.due("at another tick", x.scheduleStroke(3, 6), 5);
            Check.due("setPowerLimit(4)", x.setPowerLimit(4), 1);
            Check.due("they are counted", x.scheduleStroke(3, 5), 4);
            x.setPowerLimit(1);
            Check.due("all of them sound", x.advance(10), 5);
        });
        Doc.says("promise 6", "- `hammers`: new power limit, 1 to 12", () -> Edges.range("hammers", 1, 12,
                Check.BAD_VALUE, BellController::new, BellController::setPowerLimit));
        Doc.says("promise 6", "BAD_VALUE if it is out of range", () -> {
            BellController x = new BellController();
            Check.due("setPowerLimit(12)", x.setPowerLimit(12), 3);
            Check.due("setPowerLimit(13)", x.setPowerLimit(13), Check.BAD_VALUE);
            Check.due("setPowerLimit(1)", x.setPowerLimit(1), 12);
            Check.due("setPowerLimit(0)", x.setPowerLimit(0), Check.BAD_VALUE);
            Check.due("setPowerLimit(3)", x.setPowerLimit(3), 1);
        });
    }
}
