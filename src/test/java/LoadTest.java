/** The dearest calls, as often as an object takes them: all of them end, and answer what is due. */
public final class LoadTest {
    private static BellController manyBells() {
        BellController x = new BellController();
        for (int bell = 0; bell < 12; bell++) {
            x.addBell(1 + bell % 3, bell % 4, 90, 60);
        }
        x.setPowerLimit(12);
        x.setShakeLimit(100000);
        return x;
    }

    /** A pattern of 298 strokes, the last of which meets another stroke at each of the shifts. */
    private static void weaves() {
        BellController x = Check.quickBells(3);
        x.setPowerLimit(12);
        x.addBell(50, 100, 1, 10);
        x.scheduleStroke(3, 1297 + 149);
        x.scheduleStroke(3, 1797 - 53);
        Check.load(x, 0, "((abc)11)9 d");
        Check.due("patternStrokes(0)", x.patternStrokes(0), 298);
        for (int call = 0; call < 100; call++) {
            Check.due("weave", x.weave(0, 1000, 3, 500), Check.NONE);
        }
        Check.due("scheduledCount()", x.scheduledCount(), 2);
        Check.due("one tick earlier", x.weave(0, 999, 3, 500), 0);
        Check.due("scheduledCount()", x.scheduledCount(), 300);
        Check.due("when all is full", x.weave(0, 3000, 3, 500), Check.NONE);
    }

    private static void programmes() {
        BellController x = manyBells();
        Check.load(x, 0, "((abcdefghijkl)10)2");
        Check.load(x, 1, "((abcdefghijkl)10)10");
        for (int round = 0; round < 28; round++) {
            for (int entry = 0; entry < 8; entry++) {
                x.addEntry(entry == 0 ? 0 : 1, 0, 200, 5, 500);
            }
            x.advance(2000);
            for (int entry = 0; entry < 8; entry++) {
                x.removeEntry(0);
            }
        }
        Check.due("currentTime()", x.currentTime(), 56000);
        Check.due("entryCount()", x.entryCount(), 0);
    }

    private static void searches() {
        BellController x = manyBells();
        x.addBell(1, 0, 1, 10);
        for (int time = 0; time < 290; time++) {
            x.scheduleStroke(0, 10 + 300 * time);
        }
        for (int bell = 1; bell < 11; bell++) {
            x.startSwing(bell, 90 * bell);
            x.advance(7);
        }
        Check.load(x, 1, "((abcdefghijkl)10)10");
        for (int call = 0; call < 20; call++) {
            x.advance(1);
            int calmest = x.calmestWait(11, 1000);
            Check.holds("calmestWait in its range", calmest >= 0 && calmest < 120);
            Check.due("fastestTicks(1)", x.fastestTicks(1), Check.NONE);
            Check.due("powerNeeded(1, 1)", x.powerNeeded(1, 1), 24);
            Check.holds("greatestShake in its range", x.greatestShake(600) < 12000);
            Check.due("earliestStroke(11, 500)", x.earliestStroke(11, 500), 500);
            Check.due("earliestStroke(1, 500)", x.earliestStroke(1, 500), Check.SWINGING);
        }
    }

    public static void main(String[] args) {
        weaves();
        programmes();
        searches();
        Check.end();
    }
}
