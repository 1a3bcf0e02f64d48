/** Promises 7 to 12: the time, and the record. */
public final class TimeTest {
    private static void advance() {
        BellController x = Check.quickBells(1);
        Check.due("advance(-1)", x.advance(-1), Check.BAD_VALUE);
        Check.due("advance(2001)", x.advance(2001), Check.BAD_VALUE);
        for (int far : Check.FAR) {
            Check.due("advance", x.advance(far), Check.BAD_VALUE);
        }
        Check.due("currentTime()", x.currentTime(), 0);
        x.scheduleStroke(0, 1);
        Check.due("advance(0)", x.advance(0), 0);
        Check.due("advance(1)", x.advance(1), 1);
        Check.due("advance(0)", x.advance(0), 0);
        Check.due("currentTime()", x.currentTime(), 1);
        x.scheduleStroke(0, 100000);
        for (int i = 0; i < 49; i++) {
            x.advance(2000);
        }
        Check.due("currentTime()", x.currentTime(), 98001);
        Check.due("advance(2000)", x.advance(2000), Check.FULL);
        Check.due("advance(2001)", x.advance(2001), Check.BAD_VALUE);
        Check.due("currentTime()", x.currentTime(), 98001);
        Check.due("scheduledCount()", x.scheduledCount(), 1);
        Check.due("advance(1999)", x.advance(1999), 1);
        Check.due("currentTime()", x.currentTime(), 100000);
        Check.due("recordTime(0)", x.recordTime(0), 100000);
        Check.due("advance(1)", x.advance(1), Check.FULL);
        Check.due("advance(0)", x.advance(0), 0);
    }

    /** Hammers before turns, each in the order of the bells, and all in the order of the times. */
    private static void order() {
        BellController x = new BellController();
        x.setShakeLimit(100000);
        x.addBell(1, 0, 1, 10);
        x.addBell(9, 0, 1, 10);
        x.addBell(1, 0, 1, 20);
        x.addBell(5, 0, 1, 20);
        x.addBell(20, 0, 1, 20);
        x.startSwing(2, 1000);
        x.startSwing(0, 1000);
        // the first is loud from its turn at 60 on, the other at 120
        x.scheduleStroke(4, 120);
        x.scheduleStroke(3, 120);
        x.scheduleStroke(1, 120);
        x.scheduleStroke(1, 111);
        Check.due("advance(115)", x.advance(115), 7);
        Check.due("advance(5)", x.advance(5), 5);
        int[] bells = {2, 0, 4, 3, 1, 1, 0, 0};
        int[] times = {120, 120, 120, 120, 120, 111, 110, 100};
        int[] clappers = {1, 1, 0, 0, 0, 0, 1, 1};
        for (int i = 0; i < bells.length; i++) {
            Check.due("recordBell(" + i + ")", x.recordBell(i), bells[i]);
            Check.due("recordTime(" + i + ")", x.recordTime(i), times[i]);
            Check.due("recordClapper(" + i + ")", x.recordClapper(i), clappers[i]);
        }
    }

    private static void record() {
        BellController x = Check.quickBells(2);
        Check.due("recordLength()", x.recordLength(), 0);
        noSuchIndex(x, 0);
        for (int time = 1; time <= 199; time++) {
            x.scheduleStroke(time % 2, time);
        }
        Check.due("advance(199)", x.advance(199), 199);
        Check.due("recordLength()", x.recordLength(), 199);
        Check.due("recordTime(198)", x.recordTime(198), 1);
        noSuchIndex(x, 199);
        for (int time = 200; time <= 250; time++) {
            x.scheduleStroke(time % 2, time);
        }
        x.advance(1);
        Check.due("recordLength()", x.recordLength(), 200);
        Check.due("recordTime(199)", x.recordTime(199), 1);
        x.advance(1);
        Check.due("recordLength()", x.recordLength(), 200);
        Check.due("recordTime(0)", x.recordTime(0), 201);
        Check.due("recordBell(0)", x.recordBell(0), 1);
        Check.due("recordBell(1)", x.recordBell(1), 0);
        Check.due("recordTime(199)", x.recordTime(199), 2);
        Check.due("recordBell(199)", x.recordBell(199), 0);
        x.advance(49);
        for (int index = 0; index < 200; index += 9) {
            Check.due("recordTime(" + index + ")", x.recordTime(index), 250 - index);
        }
        noSuchIndex(x, 200);
    }

    private static void noSuchIndex(BellController x, int length) {
        for (int index : new int[] {length, length + 1, Integer.MAX_VALUE}) {
            Check.due("recordBell", x.recordBell(index), Check.NONE);
            Check.due("recordTime", x.recordTime(index), Check.NONE);
            Check.due("recordClapper", x.recordClapper(index), Check.NONE);
        }
        for (int index : new int[] {-1, Integer.MIN_VALUE}) {
            Check.due("recordBell", x.recordBell(index), Check.BAD_VALUE);
            Check.due("recordTime", x.recordTime(index), Check.BAD_VALUE);
            Check.due("recordClapper", x.recordClapper(index), Check.BAD_VALUE);
        }
    }

    public static void main(String[] args) {
        advance();
        order();
        record();
        Check.end();
    }
}
