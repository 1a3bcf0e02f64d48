/** The four examples of the document's Description. */
public final class ExamplesTest {
    private static void hammers() {
        BellController x = new BellController();
        Check.due("addBell", x.addBell(10, 20, 50, 20), 0);
        Check.due("scheduleStroke(0, 9)", x.scheduleStroke(0, 9), -5);
        Check.due("scheduleStroke(0, 10)", x.scheduleStroke(0, 10), 0);
        Check.due("scheduleStroke(0, 39)", x.scheduleStroke(0, 39), -7);
        Check.due("scheduleStroke(0, 40)", x.scheduleStroke(0, 40), 30);
        Check.due("movingHammers(35)", x.movingHammers(35), 1);
        Check.due("advance(40)", x.advance(40), 2);
        Check.due("recordTime(0)", x.recordTime(0), 40);
    }

    private static void patterns() {
        BellController x = new BellController();
        Check.due("addBell", x.addBell(1, 0, 1, 10), 0);
        Check.due("addBell", x.addBell(1, 0, 1, 10), 1);
        Check.due("appendBytes", x.appendBytes(1633825312, 757621037, 691142656, 0, 0), 20);
        Check.due("loadPattern(0, 10)", x.loadPattern(0, 10), 7);
        Check.due("stepBells(0, 0)", x.stepBells(0, 0), 3);
        Check.due("patternStrokes(0)", x.patternStrokes(0), 4);
        Check.due("play(0, 5, 10)", x.play(0, 5, 10), 4);
        Check.due("weave(0, 5, 10, 3)", x.weave(0, 5, 10, 3), 1);
    }

    private static void swinging() {
        BellController x = new BellController();
        Check.due("addBell", x.addBell(10, 20, 50, 20), 0);
        Check.due("startSwing(0, 500)", x.startSwing(0, 500), 20);
        Check.due("amplitudeAfter(0, 2)", x.amplitudeAfter(0, 2), 156);
        Check.due("turnsUntilLoud(0)", x.turnsUntilLoud(0), 6);
        Check.due("advance(20)", x.advance(20), 0);
        Check.due("force(0)", x.force(0), 99960);
        Check.due("shake(20)", x.shake(20), 100078);
        Check.due("advance(100)", x.advance(100), 1);
        Check.due("recordClapper(0)", x.recordClapper(0), 1);
    }

    private static void errors() {
        BellController x = new BellController();
        Check.due("appendBytes", x.appendBytes(677456160, 838860800, 0, 0, 0), 20);
        Check.due("loadPattern(0, 5)", x.loadPattern(0, 5), -31);
        Check.due("patternError()", x.patternError(), 1);
        Check.due("patternErrorPosition()", x.patternErrorPosition(), 3);
    }

    public static void main(String[] args) {
        hammers();
        patterns();
        swinging();
        errors();
        Check.end();
    }
}
