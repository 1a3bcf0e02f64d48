import java.util.function.Supplier;

/** Section 7: refused calls change nothing, and the refusal named first is returned. */
final class EdgesOfRefusals {
    private static final int[] FAR = {Integer.MIN_VALUE, Integer.MAX_VALUE};
    private static final Supplier<BellController> RICH = EdgesOfRefusals::rich;
    private static final Supplier<BellController> FULL = EdgesOfRefusals::full;
    private static final Supplier<BellController> LATE = EdgesOfRefusals::late;
    private static final Supplier<BellController> ENDED = EdgesOfRefusals::ended;
    private static final Supplier<BellController> ELEVEN = EdgesOfRefusals::eleven;
    private static final Supplier<BellController> CALM = EdgesOfRefusals::calm;
    private static final Supplier<BellController> CROWDED = EdgesOfRefusals::crowded;

    private EdgesOfRefusals() { }

    static void all() {
        looksCanSee();
        Doc.says("section 7", "A method that returns one of the constants NO_SUCH, BAD_VALUE, FULL, TOO_LATE, SWINGING, "
                + "CLASH, POWER, MISSING, BUSY or TOO_STRONG changes nothing, except that a method that reads the text "
                + "buffer empties it as described there", () -> {
            noSuchBells();
            noSuchPatterns();
            noSuchEntries();
            missingPatterns();
            badValues();
            badValuesOfPatterns();
            badIndices();
            fulls();
            strokes();
            cancelling();
            playing();
            swinging();
            withoutBells();
            atTheEndOfTime();
            textBuffer();
        });
        Doc.says("section 7", "If several of them apply, the one named first in the description is returned", () -> {
            bellsFirst();
            strokesInOrder();
            strokesAtLimits();
            searchesInOrder();
            patternsFirst();
            entriesInOrder();
            swingsInOrder();
            timesInOrder();
        });
        askingChangesNothing();
    }

    /** Twelve bells, of which 9 and 10 swing, strokes, patterns but for chime 4, a text, an error, and entries. */
    private static BellController rich() {
        BellController x = new BellController();
        for (int bell = 0; bell < 12; bell++) {
            x.addBell(1 + 4 * bell, 3 * bell, 20 + 7 * bell, 10 + 4 * bell);
        }
        x.setPowerLimit(2);
        x.setShakeLimit(1500);
        Check.load(x, 0, "ab-c");
        Check.load(x, 1, "j a");
        Check.load(x, 2, "(a-)20");
        Check.load(x, 3, "-20");
        Check.load(x, 4, "ab(c)0");
        x.startSwing(9, 600);
        x.startSwing(10, 300);
        x.holdClapper(10, true);
        x.scheduleStroke(0, 20);
        x.scheduleStroke(7, 40);
        x.scheduleStroke(11, 136);
        x.advance(137);
        x.addEntry(4, 200, 300, 5, 0);
        x.addEntry(0, 400, 250, 9, 50);
        x.addEntry(3, 600, 0, 1, 0);
        x.advance(1);
        x.scheduleStroke(0, 150);
        x.scheduleStroke(0, 300);
        x.scheduleStroke(2, 200);
        x.scheduleStroke(3, 200);
        x.scheduleStroke(4, 160);
        Check.append(x, "a b c d e f g h i j k l a b c d e f g h ");
        return x;
    }

    /** Like rich, but 300 strokes are scheduled, the text buffer, the record and the programme are full. */
    private static BellController full() {
        BellController x = Towers.fill(Check.quickBells(12), 220, 1);
        x.advance(220);
        Towers.fill(x, 300, 240);
        Check.load(x, 0, "b");
        Check.load(x, 1, "-");
        Check.load(x, 3, "l b");
        x.startSwing(11, 1000);
        for (int entry = 0; entry < 8; entry++) {
            x.addEntry(entry % 3, 330 + entry, 200, 1, entry);
        }
        Check.append(x, "a ".repeat(150));
        return x;
    }

    private static BellController late() {
        BellController x = Check.quickBells(3);
        Check.load(x, 0, "a");
        Towers.at(x, 99000);
        x.scheduleStroke(1, 99990);
        x.startSwing(0, 500);
        x.addEntry(0, 99500, 200, 3, 10);
        return x;
    }

    private static void refused(String name, Supplier<BellController> maker, Edges.Call call, int due, int... values) {
        for (int value : values) {
            Probe.unchanged(name + " with " + value, maker, call, value, due);
        }
    }

    /** The looks must see each single change, or they would find nothing. */
    private static void looksCanSee() {
        Edges.Call[] changes = {
            (x, value) -> x.calibrate(3, 1), (x, value) -> x.scheduleStroke(5, 400), (x, value) -> x.cancelStroke(0, 300),
            (x, value) -> x.advance(1), (x, value) -> x.setPowerLimit(3), (x, value) -> x.setShakeLimit(1501),
            (x, value) -> x.appendBytes(0, 0, 0, 0, 0), (x, value) -> x.loadPattern(3, 20), (x, value) -> x.removeEntry(1),
            (x, value) -> x.loadPattern(4, 0), (x, value) -> x.addEntry(0, 90000, 0, 1, 0), (x, value) -> x.stopMotor(9),
            (x, value) -> x.startSwing(5, 1), (x, value) -> x.holdClapper(4, true), (x, value) -> x.play(0, 500, 9)
        };
        for (int change = 0; change < changes.length; change++) {
            int seen = 0;
            for (int look = 0; look < Probe.looks(); look++) {
                BellController changed = rich();
                Check.holds("the change " + change + " is made", changes[change].on(changed, 0) >= -35);
                seen += Probe.differ(changed, rich(), look) ? 1 : 0;
            }
            Check.holds("the change " + change + " is seen", seen > 0);
        }
        for (int look = 0; look < Probe.looks(); look++) {
            Check.holds("twins are alike", !Probe.differ(rich(), rich(), look));
            Check.holds("twins are alike", !Probe.differ(full(), full(), look));
        }
    }

    private static void noSuchBells() {
        int[] none = {-1, 12, FAR[0], FAR[1]};
        refused("delay", RICH, BellController::delay, Check.NO_SUCH, none);
        refused("calibrate", RICH, (x, value) -> x.calibrate(value, 5), Check.NO_SUCH, none);
        refused("scheduleStroke", RICH, (x, value) -> x.scheduleStroke(value, 500), Check.NO_SUCH, none);
        refused("cancelStroke", RICH, (x, value) -> x.cancelStroke(value, 150), Check.NO_SUCH, none);
        refused("nextStroke", RICH, BellController::nextStroke, Check.NO_SUCH, none);
        refused("earliestStroke", RICH, (x, value) -> x.earliestStroke(value, 5), Check.NO_SUCH, none);
        refused("startSwing", RICH, (x, value) -> x.startSwing(value, 5), Check.NO_SUCH, none);
        refused("stopMotor", RICH, BellController::stopMotor, Check.NO_SUCH, none);
        refused("holdClapper", RICH, (x, value) -> x.holdClapper(value, true), Check.NO_SUCH, none);
        refused("amplitude", RICH, BellController::amplitude, Check.NO_SUCH, none);
        refused("nextTurn", RICH, BellController::nextTurn, Check.NO_SUCH, none);
        refused("amplitudeAfter", RICH, (x, value) -> x.amplitudeAfter(value, 5), Check.NO_SUCH, none);
        refused("turnsUntilLoud", RICH, BellController::turnsUntilLoud, Check.NO_SUCH, none);
        refused("force", RICH, BellController::force, Check.NO_SUCH, none);
        refused("calmestWait", RICH, (x, value) -> x.calmestWait(value, 5), Check.NO_SUCH, none);
    }

    private static void noSuchPatterns() {
        int[] none = {-1, 5, FAR[0], FAR[1]};
        refused("loadPattern", RICH, (x, value) -> x.loadPattern(value, 20), Check.NO_SUCH, none);
        refused("stepBells", RICH, (x, value) -> x.stepBells(value, 0), Check.NO_SUCH, none);
        refused("patternStrokes", RICH, BellController::patternStrokes, Check.NO_SUCH, none);
        refused("play", RICH, (x, value) -> x.play(value, 500, 9), Check.NO_SUCH, none);
        refused("weave", RICH, (x, value) -> x.weave(value, 500, 9, 5), Check.NO_SUCH, none);
        refused("fastestTicks", RICH, BellController::fastestTicks, Check.NO_SUCH, none);
        refused("powerNeeded", RICH, (x, value) -> x.powerNeeded(value, 5), Check.NO_SUCH, none);
        refused("addEntry", RICH, (x, value) -> x.addEntry(value, 500, 0, 1, 0), Check.NO_SUCH, none);
    }

    private static void noSuchEntries() {
        int[] none = {-1, 3, 8, FAR[0], FAR[1]};
        refused("removeEntry", RICH, BellController::removeEntry, Check.NO_SUCH, none);
        refused("dueTime", RICH, BellController::dueTime, Check.NO_SUCH, none);
        refused("lastShift", RICH, BellController::lastShift, Check.NO_SUCH, none);
        refused("removeEntry of 8", FULL, BellController::removeEntry, Check.NO_SUCH, -1, 8);
    }

    private static void missingPatterns() {
        refused("stepBells", RICH, (x, value) -> x.stepBells(value, 0), Check.MISSING, 4);
        refused("patternStrokes", RICH, BellController::patternStrokes, Check.MISSING, 4);
        refused("play", RICH, (x, value) -> x.play(value, 500, 9), Check.MISSING, 4);
        refused("weave", RICH, (x, value) -> x.weave(value, 500, 9, 5), Check.MISSING, 4);
        refused("fastestTicks", RICH, BellController::fastestTicks, Check.MISSING, 4);
        refused("powerNeeded", RICH, (x, value) -> x.powerNeeded(value, 5), Check.MISSING, 4);
    }

    private static BellController eleven() {
        return Check.quickBells(11);
    }

    private static void badValues() {
        refused("addBell", ELEVEN, (x, value) -> x.addBell(value, 0, 1, 10), Check.BAD_VALUE, 0, 51, FAR[0]);
        refused("addBell", ELEVEN, (x, value) -> x.addBell(1, value, 1, 10), Check.BAD_VALUE, -1, 101, FAR[1]);
        refused("addBell", ELEVEN, (x, value) -> x.addBell(1, 0, value, 10), Check.BAD_VALUE, 0, 100, FAR[0]);
        refused("addBell", ELEVEN, (x, value) -> x.addBell(1, 0, 1, value), Check.BAD_VALUE, 9, 61, FAR[1]);
        refused("calibrate", RICH, (x, value) -> x.calibrate(0, value), Check.BAD_VALUE, 0, 51, FAR[0], FAR[1]);
        refused("setPowerLimit", RICH, BellController::setPowerLimit, Check.BAD_VALUE, 0, 13, FAR[0], FAR[1]);
        refused("advance", RICH, BellController::advance, Check.BAD_VALUE, -1, 2001, FAR[0], FAR[1]);
        refused("scheduleStroke", RICH, (x, value) -> x.scheduleStroke(0, value), Check.BAD_VALUE,
                -1, 100001, FAR[0], FAR[1]);
        refused("movingHammers", RICH, BellController::movingHammers, Check.BAD_VALUE,
                -1, 0, 137, 100001, FAR[0], FAR[1]);
        refused("earliestStroke", RICH, (x, value) -> x.earliestStroke(0, value), Check.BAD_VALUE,
                -1, 100001, FAR[0], FAR[1]);
        refused("startSwing", RICH, (x, value) -> x.startSwing(5, value), Check.BAD_VALUE,
                -1, 0, 1001, FAR[0], FAR[1]);
        refused("amplitudeAfter", RICH, (x, value) -> x.amplitudeAfter(9, value), Check.BAD_VALUE,
                -1, 201, FAR[0], FAR[1]);
        refused("shake", RICH, BellController::shake, Check.BAD_VALUE, -1, 601, FAR[0], FAR[1]);
        refused("greatestShake", RICH, BellController::greatestShake, Check.BAD_VALUE, -1, 601, FAR[0], FAR[1]);
        refused("setShakeLimit", RICH, BellController::setShakeLimit, Check.BAD_VALUE,
                -1, 100001, FAR[0], FAR[1]);
        refused("calmestWait", RICH, (x, value) -> x.calmestWait(5, value), Check.BAD_VALUE,
                -1, 0, 1001, FAR[0], FAR[1]);
    }

    private static void badValuesOfPatterns() {
        refused("play", RICH, (x, value) -> x.play(0, value, 9), Check.BAD_VALUE, -1, 100001, FAR[0], FAR[1]);
        refused("play", RICH, (x, value) -> x.play(0, 500, value), Check.BAD_VALUE, 0, 201, FAR[0], FAR[1]);
        refused("weave", RICH, (x, value) -> x.weave(0, value, 9, 5), Check.BAD_VALUE, -1, 100001, FAR[0], FAR[1]);
        refused("weave", RICH, (x, value) -> x.weave(0, 500, value, 5), Check.BAD_VALUE, 0, 201, FAR[0], FAR[1]);
        refused("weave", RICH, (x, value) -> x.weave(0, 500, 9, value), Check.BAD_VALUE, -1, 501, FAR[0], FAR[1]);
        refused("powerNeeded", RICH, (x, value) -> x.powerNeeded(0, value), Check.BAD_VALUE,
                0, 201, FAR[0], FAR[1]);
        refused("addEntry", RICH, (x, value) -> x.addEntry(0, value, 0, 1, 0), Check.BAD_VALUE,
                -1, 100001, FAR[0], FAR[1]);
        refused("addEntry", RICH, (x, value) -> x.addEntry(0, 500, value, 1, 0), Check.BAD_VALUE,
                -1, 1, 199, 50001, FAR[0], FAR[1]);
        refused("addEntry", RICH, (x, value) -> x.addEntry(0, 500, 0, value, 0), Check.BAD_VALUE,
                0, 201, FAR[0], FAR[1]);
        refused("addEntry", RICH, (x, value) -> x.addEntry(0, 500, 0, 1, value), Check.BAD_VALUE,
                -1, 501, FAR[0], FAR[1]);
    }

    private static void badIndices() {
        refused("recordBell", RICH, BellController::recordBell, Check.BAD_VALUE, -1, FAR[0]);
        refused("recordTime", RICH, BellController::recordTime, Check.BAD_VALUE, -1, FAR[0]);
        refused("recordClapper", RICH, BellController::recordClapper, Check.BAD_VALUE, -1, FAR[0]);
        refused("commandTime", RICH, BellController::commandTime, Check.BAD_VALUE, -1, FAR[0]);
        refused("commandBell", RICH, BellController::commandBell, Check.BAD_VALUE, -1, FAR[0]);
    }

    private static void fulls() {
        refused("addBell", RICH, (x, value) -> x.addBell(50, 100, 99, 60), Check.FULL, 0);
        refused("advance", LATE, BellController::advance, Check.FULL, 1001, 2000);
        refused("appendBytes", FULL, (x, value) -> x.appendBytes(value, value, value, value, value),
                Check.FULL, 0, -1, 0x61616161);
        refused("addEntry", FULL, (x, value) -> x.addEntry(0, 500, 0, 1, 0), Check.FULL, 0);
        refused("scheduleStroke", FULL, (x, value) -> x.scheduleStroke(1, value), Check.FULL, 221, 239, 100000);
        refused("earliestStroke", FULL, (x, value) -> x.earliestStroke(1, value), Check.FULL, 0, 239, 100000);
        refused("play", FULL, (x, value) -> x.play(0, value, 1), Check.FULL, 221, 239, 100000);
    }

    private static void strokes() {
        refused("a bell that swings", RICH, (x, value) -> x.scheduleStroke(9, value), Check.SWINGING, 0, 500);
        refused("a late stroke", RICH, (x, value) -> x.scheduleStroke(0, value), Check.TOO_LATE, 0, 137, 138);
        refused("a scheduled stroke", RICH, (x, value) -> x.scheduleStroke(3, value), Check.CLASH, 179, 200, 221);
        refused("a sounded stroke", RICH, (x, value) -> x.scheduleStroke(11, value), Check.CLASH, 183, 213);
        refused("no power", RICH, (x, value) -> x.scheduleStroke(5, value), Check.POWER, 192, 200, 220);
        refused("earliestStroke", RICH, (x, value) -> x.earliestStroke(10, value), Check.SWINGING, 0, 500);
    }

    private static void cancelling() {
        refused("no such stroke", RICH, (x, value) -> x.cancelStroke(0, value), Check.NO_SUCH,
                20, 149, 151, FAR[0], FAR[1]);
        refused("a commanded stroke", () -> Towers.at(rich(), 143), (x, value) -> x.cancelStroke(4, value), Check.TOO_LATE, 160);
        refused("a moving hammer", () -> Towers.at(rich(), 159), (x, value) -> x.cancelStroke(4, value), Check.TOO_LATE, 160);
    }

    private static void playing() {
        refused("a bell that swings", RICH, (x, value) -> x.play(1, value, 5), Check.SWINGING, 0, 500);
        refused("a late stroke", RICH, (x, value) -> x.play(0, value, 5), Check.TOO_LATE, 0, 138);
        refused("a clash at the second step", RICH, (x, value) -> x.play(2, value, 5), Check.CLASH, 140, 290);
        refused("a clash with itself", () -> {
            BellController x = rich();
            x.calibrate(0, 50);
            return x;
        }, (x, value) -> x.play(2, 500, value), Check.CLASH, 1, 6);
        refused("the end of time", RICH, (x, value) -> x.play(0, value, 9), Check.BAD_VALUE, 99983, 100000);
        refused("no power", () -> {
            BellController x = rich();
            x.setPowerLimit(1);
            return x;
        }, (x, value) -> x.play(0, value, 9), Check.POWER, 500);
        refused("no such time", RICH, (x, value) -> x.weave(1, 500, 5, value), Check.NONE, 0, 500);
        refused("no such time", RICH, (x, value) -> x.weave(0, value, 9, 5), Check.NONE, 0, 99985);
    }

    private static void swinging() {
        refused("a bell that swings", RICH, (x, value) -> x.startSwing(9, value), Check.SWINGING, 1, 1000);
        refused("a bell with strokes", RICH, (x, value) -> x.startSwing(0, value), Check.BUSY, 1, 1000);
        refused("too strong", () -> {
            BellController x = rich();
            x.setShakeLimit(10);
            return x;
        }, (x, value) -> x.startSwing(5, value), Check.TOO_STRONG, 1, 1000);
        refused("calmestWait", RICH, (x, value) -> x.calmestWait(9, value), Check.SWINGING, 1, 1000);
        refused("stopMotor", RICH, BellController::stopMotor, Check.NONE, 5);
    }

    private static void withoutBells() {
        refused("scheduleStroke", BellController::new, (x, value) -> x.scheduleStroke(value, 5), Check.NO_SUCH, -1, 0, 11);
        refused("startSwing", BellController::new, (x, value) -> x.startSwing(value, 5), Check.NO_SUCH, -1, 0, 11);
        refused("calibrate", BellController::new, (x, value) -> x.calibrate(value, 5), Check.NO_SUCH, -1, 0, 11);
        refused("play", BellController::new, (x, value) -> x.play(value, 5, 5), Check.MISSING, 0, 4);
        refused("removeEntry", BellController::new, BellController::removeEntry, Check.NO_SUCH, -1, 0, 7);
    }

    private static BellController ended() {
        return Towers.at(late(), 100000);
    }

    private static void atTheEndOfTime() {
        refused("advance", ENDED, BellController::advance, Check.FULL, 1, 2, 2000);
        refused("advance", ENDED, BellController::advance, Check.BAD_VALUE, -1, 2001, FAR[0], FAR[1]);
        refused("scheduleStroke", ENDED, (x, value) -> x.scheduleStroke(1, value), Check.TOO_LATE, 0, 100000);
        refused("movingHammers", ENDED, BellController::movingHammers, Check.BAD_VALUE, 99999, 100001);
    }

    /** What reads the text buffer empties it, unless NO_SUCH or BAD_VALUE is returned. */
    private static void textBuffer() {
        refused("loadPattern", RICH, (x, value) -> x.loadPattern(2, value), Check.BAD_VALUE,
                -1, 41, 300, FAR[0], FAR[1]);
        refused("loadPattern", FULL, (x, value) -> x.loadPattern(2, value), Check.BAD_VALUE,
                -1, 301, FAR[0], FAR[1]);
        refused("loadPattern", FULL, (x, value) -> x.loadPattern(value, 300), Check.NO_SUCH, -1, 5);
        BellController x = rich();
        Check.due("an error in the text", x.loadPattern(2, 0), -35);
        Check.due("the buffer is empty", x.loadPattern(2, 1), Check.BAD_VALUE);
        Check.due("the previous pattern remains", x.patternStrokes(2), 20);
        Check.due("appendBytes", x.appendBytes(0, 0, 0, 0, 0), 20);
    }

    private static void first(String name, Supplier<BellController> maker, Edges.Call call, int due) {
        Probe.unchanged(name, maker, call, 0, due);
    }

    private static void bellsFirst() {
        first("calibrate: NO_SUCH, BAD_VALUE", RICH, (x, value) -> x.calibrate(12, 0), Check.NO_SUCH);
        first("scheduleStroke: NO_SUCH, BAD_VALUE", RICH, (x, value) -> x.scheduleStroke(-1, -1), Check.NO_SUCH);
        first("scheduleStroke: NO_SUCH, FULL", FULL, (x, value) -> x.scheduleStroke(12, 500), Check.NO_SUCH);
        first("scheduleStroke: NO_SUCH, late", RICH, (x, value) -> x.scheduleStroke(12, 0), Check.NO_SUCH);
        first("cancelStroke: NO_SUCH, late", RICH, (x, value) -> x.cancelStroke(12, 0), Check.NO_SUCH);
        first("earliestStroke: NO_SUCH, BAD_VALUE", RICH, (x, value) -> x.earliestStroke(12, -1), Check.NO_SUCH);
        first("earliestStroke: NO_SUCH, FULL", FULL, (x, value) -> x.earliestStroke(12, 500), Check.NO_SUCH);
        first("startSwing: NO_SUCH, BAD_VALUE", RICH, (x, value) -> x.startSwing(12, 0), Check.NO_SUCH);
        first("amplitudeAfter: NO_SUCH, BAD_VALUE", RICH, (x, value) -> x.amplitudeAfter(12, 201), Check.NO_SUCH);
        first("calmestWait: NO_SUCH, BAD_VALUE", RICH, (x, value) -> x.calmestWait(12, 1001), Check.NO_SUCH);
    }

    /** Bells of delay 10 and recovery 100: 0 and 1 have sounded at 10, 2 has a stroke at 100; the limit is 1. */
    private static BellController crowded() {
        BellController x = new BellController();
        for (int bell = 0; bell < 4; bell++) {
            x.addBell(10, 100, 1, 10);
        }
        x.scheduleStroke(0, 10);
        x.scheduleStroke(1, 10);
        x.scheduleStroke(2, 100);
        x.scheduleStroke(3, 100000);
        x.advance(10);
        x.startSwing(1, 5);
        x.setPowerLimit(1);
        return x;
    }

    private static void strokesInOrder() {
        first("BAD_VALUE, SWINGING", CROWDED, (x, value) -> x.scheduleStroke(1, 100001), Check.BAD_VALUE);
        first("BAD_VALUE, TOO_LATE", CROWDED, (x, value) -> x.scheduleStroke(0, -1), Check.BAD_VALUE);
        first("BAD_VALUE, CLASH", CROWDED, (x, value) -> x.scheduleStroke(3, 100001), Check.BAD_VALUE);
        first("BAD_VALUE, POWER", CROWDED, (x, value) -> x.scheduleStroke(2, 100001), Check.BAD_VALUE);
        first("SWINGING, TOO_LATE", CROWDED, (x, value) -> x.scheduleStroke(1, 19), Check.SWINGING);
        first("SWINGING, CLASH", CROWDED, (x, value) -> x.scheduleStroke(1, 20), Check.SWINGING);
        first("SWINGING, POWER", CROWDED, (x, value) -> x.scheduleStroke(1, 99999), Check.SWINGING);
        first("TOO_LATE, CLASH", CROWDED, (x, value) -> x.scheduleStroke(0, 19), Check.TOO_LATE);
        first("CLASH behind a sounded stroke", CROWDED, (x, value) -> x.scheduleStroke(0, 20), Check.CLASH);
        first("CLASH, POWER", CROWDED, (x, value) -> x.scheduleStroke(2, 100), Check.CLASH);
        first("CLASH of a sounded stroke, POWER", CROWDED, (x, value) -> x.scheduleStroke(0, 100), Check.CLASH);
        first("POWER", CROWDED, (x, value) -> x.scheduleStroke(3, 100), Check.POWER);
        first("TOO_LATE, POWER", () -> Towers.at(crowded(), 95), (x, value) -> x.scheduleStroke(3, 104), Check.TOO_LATE);
    }

    private static void strokesAtLimits() {
        first("BAD_VALUE, FULL", FULL, (x, value) -> x.scheduleStroke(1, 100001), Check.BAD_VALUE);
        first("SWINGING, FULL", FULL, (x, value) -> x.scheduleStroke(11, 500), Check.SWINGING);
        first("TOO_LATE, FULL", FULL, (x, value) -> x.scheduleStroke(1, 220), Check.TOO_LATE);
        first("FULL, CLASH", FULL, (x, value) -> x.scheduleStroke(0, 300), Check.FULL);
        first("FULL, POWER", () -> {
            BellController x = full();
            x.setPowerLimit(1);
            return x;
        }, (x, value) -> x.scheduleStroke(1, 300), Check.FULL);
    }

    private static void searchesInOrder() {
        first("BAD_VALUE, SWINGING", RICH, (x, value) -> x.earliestStroke(9, -1), Check.BAD_VALUE);
        first("BAD_VALUE, FULL", FULL, (x, value) -> x.earliestStroke(1, 100001), Check.BAD_VALUE);
        first("SWINGING, FULL", FULL, (x, value) -> x.earliestStroke(11, 500), Check.SWINGING);
        first("FULL where there would be no time", () -> {
            BellController x = Towers.at(Check.quickBells(1), 99000);
            return Towers.fill(x, 300, 99701);
        }, (x, value) -> x.earliestStroke(0, 99800), Check.FULL);
    }

    private static void patternsFirst() {
        first("loadPattern: NO_SUCH, BAD_VALUE", RICH, (x, value) -> x.loadPattern(5, 41), Check.NO_SUCH);
        first("stepBells: NO_SUCH, MISSING", ELEVEN, (x, value) -> x.stepBells(5, 0), Check.NO_SUCH);
        first("play: NO_SUCH, BAD_VALUE", RICH, (x, value) -> x.play(5, -1, 0), Check.NO_SUCH);
        first("play: MISSING, BAD_VALUE", RICH, (x, value) -> x.play(4, -1, 0), Check.MISSING);
        first("play: MISSING, FULL", FULL, (x, value) -> x.play(2, 500, 1), Check.MISSING);
        first("play: BAD_VALUE, TOO_LATE", RICH, (x, value) -> x.play(0, 0, 0), Check.BAD_VALUE);
        first("play: BAD_VALUE, SWINGING", RICH, (x, value) -> x.play(1, 500, 201), Check.BAD_VALUE);
        first("play: BAD_VALUE, FULL", FULL, (x, value) -> x.play(0, 100001, 1), Check.BAD_VALUE);
        first("play: SWINGING, FULL", FULL, (x, value) -> x.play(3, 500, 1), Check.SWINGING);
        first("weave: NO_SUCH, BAD_VALUE", RICH, (x, value) -> x.weave(-1, -1, 0, -1), Check.NO_SUCH);
        first("weave: MISSING, BAD_VALUE", RICH, (x, value) -> x.weave(4, -1, 0, -1), Check.MISSING);
        first("weave: BAD_VALUE, no time", FULL, (x, value) -> x.weave(0, 500, 1, 501), Check.BAD_VALUE);
        first("powerNeeded: NO_SUCH, BAD_VALUE", RICH, (x, value) -> x.powerNeeded(5, 0), Check.NO_SUCH);
        first("powerNeeded: MISSING, BAD_VALUE", RICH, (x, value) -> x.powerNeeded(4, 0), Check.MISSING);
    }

    private static void entriesInOrder() {
        first("addEntry: NO_SUCH, BAD_VALUE", RICH, (x, value) -> x.addEntry(5, -1, 1, 0, -1), Check.NO_SUCH);
        first("addEntry: NO_SUCH, FULL", FULL, (x, value) -> x.addEntry(5, 500, 0, 1, 0), Check.NO_SUCH);
        first("addEntry: BAD_VALUE, FULL", FULL, (x, value) -> x.addEntry(0, 500, 0, 1, 501), Check.BAD_VALUE);
    }

    private static BellController calm() {
        BellController x = rich();
        x.setShakeLimit(0);
        return x;
    }

    private static void swingsInOrder() {
        first("NO_SUCH, TOO_STRONG", CALM, (x, value) -> x.startSwing(12, 1000), Check.NO_SUCH);
        first("BAD_VALUE, SWINGING", RICH, (x, value) -> x.startSwing(9, 1001), Check.BAD_VALUE);
        first("BAD_VALUE, BUSY", RICH, (x, value) -> x.startSwing(0, 0), Check.BAD_VALUE);
        first("BAD_VALUE, TOO_STRONG", CALM, (x, value) -> x.startSwing(5, 1001), Check.BAD_VALUE);
        first("SWINGING, TOO_STRONG", CALM, (x, value) -> x.startSwing(9, 1000), Check.SWINGING);
        first("BUSY, TOO_STRONG", CALM, (x, value) -> x.startSwing(0, 1000), Check.BUSY);
        first("TOO_STRONG", CALM, (x, value) -> x.startSwing(5, 1), Check.TOO_STRONG);
        first("calmestWait: BAD_VALUE, SWINGING", RICH, (x, value) -> x.calmestWait(9, 0), Check.BAD_VALUE);
    }

    private static void timesInOrder() {
        first("advance: BAD_VALUE, FULL", LATE, (x, value) -> x.advance(2001), Check.BAD_VALUE);
        first("advance: BAD_VALUE, FULL", ENDED, (x, value) -> x.advance(Integer.MAX_VALUE), Check.BAD_VALUE);
        first("addBell: BAD_VALUE, FULL", RICH, (x, value) -> x.addBell(0, 0, 1, 10), Check.BAD_VALUE);
        first("movingHammers of a past and a far tick", RICH, (x, value) -> x.movingHammers(-5), Check.BAD_VALUE);
    }

    /** What only answers leaves all as it is, with an answer as without. */
    private static void askingChangesNothing() {
        Edges.Call[] asking = {
            (x, value) -> x.earliestStroke(2, 190), (x, value) -> x.movingHammers(180), (x, value) -> x.fastestTicks(0),
            (x, value) -> x.powerNeeded(0, 3), (x, value) -> x.patternStrokes(2), (x, value) -> x.amplitudeAfter(9, 77),
            (x, value) -> x.turnsUntilLoud(9), (x, value) -> x.shake(600), (x, value) -> x.greatestShake(600),
            (x, value) -> x.calmestWait(5, 1000), (x, value) -> x.advance(0), (x, value) -> x.weave(3, 500, 1, 5),
            (x, value) -> x.play(3, 500, 1), (x, value) -> x.force(10), (x, value) -> x.commandTime(0)
        };
        for (int index = 0; index < asking.length; index++) {
            int answer = asking[index].on(rich(), 0);
            Check.holds("asking " + index + " is answered " + answer, answer >= 0);
            Probe.unchanged("asking " + index, RICH, asking[index], 0, answer);
        }
    }
}
