/** Section 5 and promises 7 to 12: a test for each sentence that names a boundary. */
final class EdgesOfTime {
    private EdgesOfTime() { }

    static void all() {
        section5();
        promise8();
        promise9();
        indices(10, "Returns the bell of a stroke in the record", BellController::recordBell);
        indices(11, "Returns the time of a stroke in the record", BellController::recordTime);
        indices(12, "Tells whether a stroke in the record was struck by a clapper", BellController::recordClapper);
        latestFirst();
        lastTime();
    }

    /** Five bells, whose hammers and clappers come together at the tick 100. */
    private static BellController crowd() {
        BellController x = new BellController();
        int[] delays = {1, 1, 50, 2, 7};
        for (int delay : delays) {
            x.addBell(delay, 0, 1, 10);
        }
        x.startSwing(1, 1000);
        x.startSwing(0, 1000);
        x.scheduleStroke(4, 100);
        x.scheduleStroke(3, 100);
        x.scheduleStroke(2, 100);
        return x;
    }

    private static void record(BellController x, int index, int bell, int time, int clapper) {
        Check.due("recordBell(" + index + ")", x.recordBell(index), bell);
        Check.due("recordTime(" + index + ")", x.recordTime(index), time);
        Check.due("recordClapper(" + index + ")", x.recordClapper(index), clapper);
    }

    private static void section5() {
        Doc.says("section 5", "When the time advances, all events happen in the order of their times", () -> {
            BellController x = crowd();
            Check.due("scheduleStroke(3, 98)", x.scheduleStroke(3, 98), 96);
            Check.due("scheduleStroke(2, 150)", x.scheduleStroke(2, 150), 100);
            Check.due("scheduleStroke(4, 107)", x.scheduleStroke(4, 107), 100);
            x.advance(110);
            record(x, 0, 1, 110, 1);
            record(x, 2, 4, 107, 0);
            record(x, 3, 1, 100, 1);
            record(x, 8, 3, 98, 0);
            record(x, 9, 1, 90, 1);
        });
        Doc.says("section 5", "At the same time, the hammer strokes come first, in the order of the bells, "
                + "then the turns, in the order of the bells", () -> {
            BellController x = crowd();
            x.advance(99);
            int before = x.recordLength();
            Check.due("advance(1)", x.advance(1), 5);
            Check.due("recordLength()", x.recordLength(), before + 5);
            record(x, 4, 2, 100, 0);
            record(x, 3, 3, 100, 0);
            record(x, 2, 4, 100, 0);
            record(x, 1, 0, 100, 1);
            record(x, 0, 1, 100, 1);
        });
        Doc.says("section 5", "Every hammer stroke that sounds and every clapper stroke is added to the record", () -> {
            BellController x = crowd();
            // the first strokes that are loud come with the sixth turns
            Check.due("advance(59)", x.advance(59), 0);
            Check.due("recordLength()", x.recordLength(), 0);
            Check.due("advance(1)", x.advance(1), 2);
            Check.due("advance(40)", x.advance(40), 11);
            Check.due("recordLength()", x.recordLength(), 13);
            x.holdClapper(0, true);
            Check.due("advance(10)", x.advance(10), 1);
            Check.due("recordLength()", x.recordLength(), 14);
            record(x, 0, 1, 110, 1);
        });
        Doc.says("section 5", "The record keeps the latest 200 strokes", () -> {
            BellController x = Towers.fill(Check.quickBells(1), 202, 1);
            x.advance(199);
            Check.due("recordLength()", x.recordLength(), 199);
            record(x, 198, 0, 1, 0);
            Check.due("recordTime(199)", x.recordTime(199), Check.NONE);
            x.advance(1);
            Check.due("recordLength()", x.recordLength(), 200);
            record(x, 199, 0, 1, 0);
            record(x, 0, 0, 200, 0);
            x.advance(1);
            Check.due("recordLength()", x.recordLength(), 200);
            record(x, 199, 0, 2, 0);
            record(x, 0, 0, 201, 0);
            Check.due("recordTime(200)", x.recordTime(200), Check.NONE);
            x.advance(1);
            for (int index = 0; index < 200; index++) {
                Check.due("recordTime(" + index + ")", x.recordTime(index), 202 - index);
            }
        });
    }

    private static void promise8() {
        Doc.says("promise 8", "The events at the new current time are included, those at the old one are not", () -> {
            BellController x = Towers.fill(Check.quickBells(1), 3, 5);
            Check.due("advance(4)", x.advance(4), 0);
            Check.due("advance(1)", x.advance(1), 1);
            Check.due("advance(0)", x.advance(0), 0);
            Check.due("advance(1)", x.advance(1), 1);
            Check.due("advance(1)", x.advance(1), 1);
            Check.due("advance(1)", x.advance(1), 0);
        });
        Doc.says("promise 8", "- `ticks`: number of ticks, 0 to 2000", () -> Edges.range("ticks", 0, 2000,
                Check.BAD_VALUE, () -> Check.quickBells(1), BellController::advance));
        Doc.says("promise 8", "BAD_VALUE if ticks is out of range", () -> {
            BellController x = Towers.fill(Check.quickBells(1), 3, 1);
            Check.due("advance(-1)", x.advance(-1), Check.BAD_VALUE);
            Check.due("advance(2001)", x.advance(2001), Check.BAD_VALUE);
            Check.due("currentTime()", x.currentTime(), 0);
            Check.due("scheduledCount()", x.scheduledCount(), 3);
            Check.due("advance(2000)", x.advance(2000), 3);
            Check.due("currentTime()", x.currentTime(), 2000);
        });
        Doc.says("promise 8", "FULL if the new time would be greater than 100,000", () -> {
            BellController x = Towers.at(Check.quickBells(1), 98001);
            x.scheduleStroke(0, 100000);
            Check.due("advance(2000)", x.advance(2000), Check.FULL);
            Check.due("currentTime()", x.currentTime(), 98001);
            Check.due("scheduledCount()", x.scheduledCount(), 1);
            Check.due("advance(1999)", x.advance(1999), 1);
            Check.due("currentTime()", x.currentTime(), 100000);
            Check.due("advance(1)", x.advance(1), Check.FULL);
            Check.due("advance(2000)", x.advance(2000), Check.FULL);
            Check.due("advance(0)", x.advance(0), 0);
        });
    }

    private static void promise9() {
        Doc.says("promise 9", "Returns 0 to 200", () -> {
            BellController x = Towers.fill(Check.quickBells(1), 300, 1);
            Check.due("recordLength()", x.recordLength(), 0);
            x.advance(1);
            Check.due("recordLength()", x.recordLength(), 1);
            x.advance(198);
            Check.due("recordLength()", x.recordLength(), 199);
            x.advance(1);
            Check.due("recordLength()", x.recordLength(), 200);
            Check.due("advance(100)", x.advance(100), 100);
            Check.due("recordLength()", x.recordLength(), 200);
        });
    }

    /** A quick bell that has sounded so many times, at the ticks from 1 on. */
    private static BellController sounded(int strokes) {
        return Towers.at(Towers.fill(Check.quickBells(1), strokes, 1), strokes);
    }

    private static void indices(int promise, String name, Edges.Call call) {
        Doc.says("promise " + promise, name, () -> {
            Check.holds("the oldest of one", call.on(sounded(1), 0) >= 0);
            Check.holds("the oldest of 300", call.on(sounded(300), 199) >= 0);
        });
        Doc.says("promise " + promise, "NONE if there are not so many", () -> {
            for (int value : new int[] {0, 1, 199, 200, Integer.MAX_VALUE}) {
                Check.due("of an empty record", call.on(new BellController(), value), Check.NONE);
            }
            for (int value : new int[] {1, 2, 199, 200, Integer.MAX_VALUE}) {
                Check.due("of one stroke", call.on(sounded(1), value), Check.NONE);
            }
            Check.due("of 199 strokes", call.on(sounded(199), 199), Check.NONE);
            for (int value : new int[] {200, 201, 299, 300, Integer.MAX_VALUE - 1, Integer.MAX_VALUE}) {
                Check.due("of 300 strokes", call.on(sounded(300), value), Check.NONE);
            }
        });
        Doc.says("promise " + promise, "BAD_VALUE if the index is negative", () -> {
            for (int value : new int[] {-1, -2, -200, -201, Integer.MIN_VALUE, Integer.MIN_VALUE + 1}) {
                Check.due("of an empty record", call.on(new BellController(), value), Check.BAD_VALUE);
                Check.due("of one stroke", call.on(sounded(1), value), Check.BAD_VALUE);
                Check.due("of 300 strokes", call.on(sounded(300), value), Check.BAD_VALUE);
            }
        });
    }

    private static void latestFirst() {
        BellController x = crowd();
        x.advance(100);
        String latest = "- `index`: index from 0, where 0 is the latest stroke";
        Doc.says("promise 10", latest, () -> {
            Check.due("recordBell(0)", x.recordBell(0), 1);
            Check.due("recordBell(1)", x.recordBell(1), 0);
            Check.due("recordBell(12)", x.recordBell(12), 0);
        });
        Doc.says("promise 11", latest, () -> {
            Check.due("recordTime(0)", x.recordTime(0), 100);
            Check.due("recordTime(5)", x.recordTime(5), 90);
            Check.due("recordTime(12)", x.recordTime(12), 60);
        });
        Doc.says("promise 12", latest, () -> {
            Check.due("recordClapper(0)", x.recordClapper(0), 1);
            Check.due("recordClapper(2)", x.recordClapper(2), 0);
            Check.due("recordClapper(4)", x.recordClapper(4), 0);
            Check.due("recordClapper(5)", x.recordClapper(5), 1);
        });
        Doc.says("promise 12", "Returns 1 for a clapper, 0 for a hammer", () -> {
            int clappers = 0;
            for (int index = 0; index < x.recordLength(); index++) {
                clappers += x.recordClapper(index);
            }
            Check.due("clappers", clappers, 10);
        });
    }

    /** What is due when the time has come to its end. */
    private static void lastTime() {
        BellController x = Check.quickBells(3);
        Check.load(x, 0, "a");
        Check.load(x, 1, "-");
        Towers.at(x, 99990);
        Check.due("startSwing(1, 1)", x.startSwing(1, 1), 100000);
        x.scheduleStroke(0, 100000);
        Check.due("advance(10)", x.advance(10), 1);
        Check.due("currentTime()", x.currentTime(), 100000);
        Check.due("amplitude(1)", x.amplitude(1), 1);
        Check.due("nextTurn(1)", x.nextTurn(1), 100010);
        Check.due("scheduleStroke(0, 100000)", x.scheduleStroke(0, 100000), Check.TOO_LATE);
        Check.due("scheduleStroke(0, 100001)", x.scheduleStroke(0, 100001), Check.BAD_VALUE);
        Check.due("earliestStroke(0, 100000)", x.earliestStroke(0, 100000), Check.NONE);
        Check.due("earliestStroke(0, 0)", x.earliestStroke(0, 0), Check.NONE);
        Check.due("movingHammers(100000)", x.movingHammers(100000), 0);
        Check.due("movingHammers(99999)", x.movingHammers(99999), Check.BAD_VALUE);
        Check.due("play(0, 100000, 1)", x.play(0, 100000, 1), Check.TOO_LATE);
        Check.due("play(1, 100000, 1)", x.play(1, 100000, 1), 0);
        Check.due("weave(0, 100000, 1, 500)", x.weave(0, 100000, 1, 500), Check.NONE);
        Check.due("weave(1, 100000, 1, 500)", x.weave(1, 100000, 1, 500), 0);
        Check.due("fastestTicks(0)", x.fastestTicks(0), 1);
        Check.due("addEntry(0, 100000, 200, 1, 0)", x.addEntry(0, 100000, 200, 1, 0), 0);
        Check.due("advance(0)", x.advance(0), 0);
        Check.due("dueTime(0)", x.dueTime(0), 100000);
        Check.due("failureCount()", x.failureCount(), 0);
        Check.due("startSwing(2, 1000)", x.startSwing(2, 1000), 100010);
        Check.due("shake(600)", x.shake(600), 100010);
        Check.due("calmestWait(0, 1)", x.calmestWait(0, 1), 0);
    }
}
