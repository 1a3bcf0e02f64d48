/** Section 3, as far as it tells how patterns are played, and promises 26 to 30: a test for each boundary. */
final class EdgesOfPatterns {
    private EdgesOfPatterns() { }

    static void all() {
        section3();
        section3Order();
        promise26();
        promise27();
        promise27Refusals();
        promise28();
        promise28Shifts();
        promise28Refusals();
        promise29();
        promise29Limits();
        promise30();
    }

    /** Quick bells with a text as their tune. */
    private static BellController tune(int bells, String text) {
        BellController x = Check.quickBells(bells);
        Check.holds("the text is a pattern", Check.load(x, 0, text) > 0);
        return x;
    }

    private static void section3() {
        Doc.says("section 3", "To play a pattern from a time t with s ticks per step means to schedule, for each "
                + "step k from 0 on and each bell of that step, a stroke at time t + k * s", () -> {
            for (int ticks : new int[] {1, 2, 199, 200}) {
                BellController x = tune(2, "ab-b");
                Check.due("play", x.play(0, 1000, ticks), 3);
                Check.due("commandTime(0)", x.commandTime(0), 999);
                Check.due("commandBell(0)", x.commandBell(0), 0);
                Check.due("commandTime(1)", x.commandTime(1), 999);
                Check.due("commandBell(1)", x.commandBell(1), 1);
                Check.due("commandTime(2)", x.commandTime(2), 999 + 2 * ticks);
                Check.due("commandBell(2)", x.commandBell(2), 1);
            }
            BellController x = tune(1, "-20-20-20-20-19a");
            Check.due("the step 99", x.play(0, 0, 200), 1);
            Check.due("nextStroke(0)", x.nextStroke(0), 99 * 200);
            Check.due("the last step at 100000", x.play(0, 80200, 200), 1);
            Check.due("and behind it", x.play(0, 80201, 200), Check.BAD_VALUE);
        });
        Doc.says("section 3", "Either all strokes are scheduled or none", () -> {
            BellController x = tune(2, "((b)10)9(b)9a");
            x.scheduleStroke(0, 299);
            Check.due("the hundredth stroke fails", x.play(0, 200, 1), Check.CLASH);
            Check.due("scheduledCount()", x.scheduledCount(), 1);
            Check.due("nextStroke(1)", x.nextStroke(1), Check.NONE);
            Check.due("movingHammers(250)", x.movingHammers(250), 0);
            Check.due("a tick later", x.play(0, 201, 1), 100);
            Check.due("scheduledCount()", x.scheduledCount(), 101);
        });
    }

    private static void section3Order() {
        Doc.says("section 3", "The strokes are examined in the order of the steps, and within a step in the order "
                + "of the bells, each of them as if the preceding ones were scheduled already", () -> {
            BellController x = Check.quickBells(3);
            x.startSwing(1, 1);
            x.scheduleStroke(0, 100);
            x.scheduleStroke(2, 100);
            Check.load(x, 0, "ab");
            Check.due("bell 0 before bell 1", x.play(0, 100, 1), Check.CLASH);
            Check.load(x, 0, "ba");
            Check.due("whatever the order of the letters", x.play(0, 100, 1), Check.CLASH);
            Check.load(x, 0, "cb");
            Check.due("bell 1 before bell 2", x.play(0, 100, 1), Check.SWINGING);
            Check.load(x, 0, "b a");
            Check.due("step 0 before step 1", x.play(0, 99, 1), Check.SWINGING);
            Check.load(x, 0, "a b");
            Check.due("step 0 before step 1", x.play(0, 100, 1), Check.CLASH);
            Check.due("where step 0 is free", x.play(0, 101, 1), Check.SWINGING);
        });
        Doc.says("section 7", "If several strokes are examined, the first stroke that cannot be scheduled decides", () -> {
            BellController x = Towers.filled(4, 298);
            x.setPowerLimit(1);
            Check.load(x, 0, "bcd");
            Check.due("bell 2 has no power, before bell 3 finds 300", x.play(0, 400, 1), Check.POWER);
            Check.load(x, 0, "b c d");
            Check.due("the third finds 300", x.play(0, 400, 1), Check.FULL);
            Check.load(x, 0, "b b2 c d");
            Check.due("the end of time, before 300", x.play(0, 99999, 1), Check.BAD_VALUE);
            Check.load(x, 0, "a b");
            Check.due("the first clashes, the second would be free", x.play(0, 200, 1), Check.CLASH);
            BellController y = Towers.bell(5, 10, 1, 10);
            Check.load(y, 0, "a a");
            Check.due("the second clashes with the first", y.play(0, 50, 14), Check.CLASH);
            Check.due("the first is late, before that", y.play(0, 4, 14), Check.TOO_LATE);
            Check.due("right behind it", y.play(0, 5, 15), 2);
        });
    }

    private static void promise26() {
        Doc.says("promise 26", "Returns the number of strokes that the tune or a chime would schedule: the number of "
                + "pairs of a step and a bell that exists", () -> {
            for (int bells = 0; bells <= 12; bells++) {
                BellController x = tune(bells, "((abcdefghijkl)10)10");
                Check.due("with so many bells", x.patternStrokes(0), 100 * bells);
            }
            Check.due("of rests", tune(12, "-20").patternStrokes(0), 0);
            Check.due("without bells", tune(0, "abc").patternStrokes(0), 0);
            Check.due("of repeated letters", tune(1, "aaa").patternStrokes(0), 1);
            Check.due("of rests behind bells", tune(1, "a20").patternStrokes(0), 1);
        });
        Doc.says("promise 26", "- `which`: 0 for the tune, 1 to 4 for a chime", () -> Edges.patterns("patternStrokes",
                BellController::patternStrokes));
        Doc.says("promise 26", "NO_SUCH if which is out of range", () -> {
            for (int value : new int[] {-1, 5, Integer.MIN_VALUE, Integer.MAX_VALUE}) {
                Check.due("without patterns", new BellController().patternStrokes(value), Check.NO_SUCH);
            }
        });
        Doc.says("promise 26", "MISSING if the pattern is missing", () -> Edges.missing("patternStrokes",
                BellController::patternStrokes));
    }

    private static void promise27() {
        Doc.says("promise 27", "Letters of bells that do not exist are ignored", () -> {
            BellController x = tune(2, "abc l (cdefghijkl)20 b");
            Check.due("play", x.play(0, 10, 1), 3);
            Check.due("scheduledCount()", x.scheduledCount(), 3);
            Check.due("nothing exists", tune(0, "ab").play(0, 0, 1), 0);
            Check.due("beyond the end of time", tune(1, "a l20 l").play(0, 100000, 200), 1);
            Check.due("without power", tune(3, "abcdefghijkl").play(0, 10, 1), 3);
        });
        Doc.says("promise 27", "- `which`: 0 for the tune, 1 to 4 for a chime", () -> Edges.patterns("play",
                (x, value) -> x.play(value, 10, 1)));
        Doc.says("promise 27", "- `time`: time of step 0, 0 to 100,000", () -> {
            Edges.range("of a rest", 0, 100000, Check.BAD_VALUE, () -> tune(1, "-"), (x, value) -> x.play(0, value, 1));
            Edges.range("of a rest", 0, 100000, Check.BAD_VALUE, () -> tune(1, "-20"), (x, value) -> x.play(0, value, 200));
            Check.due("of a stroke at 0", tune(1, "a").play(0, 0, 1), Check.TOO_LATE);
            Check.due("of a stroke at 1", tune(1, "a").play(0, 1, 1), 1);
            Check.due("of a stroke at 100000", tune(1, "a").play(0, 100000, 1), 1);
            Check.due("of a stroke at 100001", tune(1, "a").play(0, 100001, 1), Check.BAD_VALUE);
        });
        Doc.says("promise 27", "- `ticks`: ticks per step, 1 to 200", () -> Edges.range("ticks", 1, 200, Check.BAD_VALUE,
                () -> tune(1, "a a"), (x, value) -> x.play(0, 10, value)));
    }

    private static void promise27Refusals() {
        Doc.says("promise 27", "NO_SUCH if which is out of range", () -> {
            for (int value : new int[] {-1, 5, Integer.MIN_VALUE, Integer.MAX_VALUE}) {
                Check.due("without patterns", new BellController().play(value, 10, 1), Check.NO_SUCH);
            }
        });
        Doc.says("promise 27", "MISSING if the pattern is missing", () -> Edges.missing("play",
                (x, value) -> x.play(value, 10, 1)));
        Doc.says("promise 27", "BAD_VALUE if time or ticks is out of range", () -> {
            BellController x = tune(1, "a");
            int[][] wrong = {{-1, 1}, {100001, 1}, {10, 0}, {10, 201}, {-1, 0}, {100001, 201},
                {Integer.MIN_VALUE, Integer.MIN_VALUE}, {Integer.MAX_VALUE, Integer.MAX_VALUE}};
            for (int[] values : wrong) {
                Check.due("play", x.play(0, values[0], values[1]), Check.BAD_VALUE);
            }
            Check.due("scheduledCount()", x.scheduledCount(), 0);
        });
        Doc.says("promise 27", "otherwise, if a stroke cannot be scheduled, the constant that scheduleStroke "
                + "would return for it", () -> {
            Check.due("behind 100000", tune(1, "a-a").play(0, 99999, 1), Check.BAD_VALUE);
            BellController x = Towers.at(tune(3, "a"), 50);
            Check.due("a late stroke", x.play(0, 50, 1), Check.TOO_LATE);
            x.scheduleStroke(0, 60);
            Check.due("an occupied hammer", x.play(0, 60, 1), Check.CLASH);
            x.setPowerLimit(1);
            x.scheduleStroke(1, 61);
            Check.due("no power", x.play(0, 61, 1), Check.POWER);
            x.advance(11);
            x.startSwing(0, 1);
            Check.due("a bell that swings", x.play(0, 100, 1), Check.SWINGING);
            BellController y = Towers.filled(2, 300);
            Check.load(y, 0, "b");
            Check.due("300 strokes", y.play(0, 5, 1), Check.FULL);
            BellController z = Towers.filled(2, 299);
            Check.load(z, 0, "b b");
            Check.due("299 strokes and two", z.play(0, 5, 1), Check.FULL);
            Check.load(z, 0, "b");
            Check.due("299 strokes and one", z.play(0, 5, 1), 1);
        });
    }

    private static void promise28() {
        Doc.says("promise 28", "Weaves the tune or a chime into what is scheduled: plays it from the earliest time, "
                + "beginning with the given time, at which all its strokes can be scheduled", () -> {
            BellController x = tune(1, "a a");
            Check.due("at the given time", x.weave(0, 10, 5, 500), 0);
            Check.due("a tick later", x.weave(0, 10, 5, 500), 1);
            Check.due("at the given time", x.weave(0, 14, 5, 500), 0);
            Check.due("as 10, 11, 14, 15, 16 and 19 are taken", x.weave(0, 9, 5, 500), 3);
            Check.due("scheduledCount()", x.scheduledCount(), 8);
        });
        Doc.says("promise 28", "- `which`: 0 for the tune, 1 to 4 for a chime", () -> Edges.patterns("weave",
                (x, value) -> x.weave(value, 10, 1, 0)));
        Doc.says("promise 28", "- `time`: smallest time of step 0, 0 to 100,000", () -> {
            Edges.range("of a stroke", 0, 100000, Check.BAD_VALUE, () -> tune(1, "a"),
                    (x, value) -> x.weave(0, value, 1, 500));
            Edges.range("of a rest", 0, 100000, Check.BAD_VALUE, () -> tune(1, "-"),
                    (x, value) -> x.weave(0, value, 1, 0));
        });
        Doc.says("promise 28", "- `ticks`: ticks per step, 1 to 200", () -> Edges.range("ticks", 1, 200, Check.BAD_VALUE,
                () -> tune(1, "a a"), (x, value) -> x.weave(0, 10, value, 500)));
        Doc.says("promise 28", "- `shift`: largest number of ticks by which step 0 may be later, 0 to 500", () -> {
            Edges.range("shift", 0, 500, Check.BAD_VALUE, () -> tune(1, "a"), (x, value) -> x.weave(0, 10, 1, value));
            BellController x = Towers.at(tune(1, "a"), 1000);
            Check.due("501 ticks would do", x.weave(0, 500, 1, 500), Check.NONE);
            Check.due("500 ticks do", x.weave(0, 501, 1, 500), 500);
            Check.due("none would do", x.weave(0, 1001, 1, 0), Check.NONE);
            Check.due("none do", x.weave(0, 1002, 1, 0), 0);
        });
    }

    private static void promise28Shifts() {
        Doc.says("promise 28", "Returns the number of ticks by which step 0 is later than the given time", () -> {
            BellController x = Towers.at(tune(1, "-a"), 100);
            Check.due("a shift of 1, as step 1 comes at 101", x.weave(0, 98, 2, 500), 1);
            Check.due("nextStroke(0)", x.nextStroke(0), 101);
            Check.due("weave(0, 100, 1, 5)", x.weave(0, 100, 1, 5), 1);
            Check.due("without strokes there is no shift", tune(1, "b").weave(0, 0, 1, 500), 0);
        });
        Doc.says("promise 28", "NONE if there is no such time, and then nothing is scheduled", () -> {
            BellController x = tune(2, "b-a");
            for (int time = 50; time < 60; time++) {
                x.scheduleStroke(0, time);
            }
            Check.due("weave(0, 48, 1, 9)", x.weave(0, 48, 1, 9), Check.NONE);
            Check.due("scheduledCount()", x.scheduledCount(), 10);
            Check.due("nextStroke(1)", x.nextStroke(1), Check.NONE);
            Check.due("weave(0, 48, 1, 10)", x.weave(0, 48, 1, 10), 10);
            Check.due("nextStroke(1)", x.nextStroke(1), 58);
            Check.due("beyond the end of time", x.weave(0, 99999, 1, 500), Check.NONE);
            Check.due("up to the end of time", x.weave(0, 99998, 1, 500), 0);
            Check.due("when it is taken", x.weave(0, 99998, 1, 500), Check.NONE);
            Check.due("scheduledCount()", x.scheduledCount(), 14);
        });
    }

    private static void promise28Refusals() {
        Doc.says("promise 28", "NO_SUCH if which is out of range", () -> {
            for (int value : new int[] {-1, 5, Integer.MIN_VALUE, Integer.MAX_VALUE}) {
                Check.due("without patterns", new BellController().weave(value, 10, 1, 0), Check.NO_SUCH);
            }
        });
        Doc.says("promise 28", "MISSING if the pattern is missing", () -> Edges.missing("weave",
                (x, value) -> x.weave(value, 10, 1, 0)));
        Doc.says("promise 28", "BAD_VALUE if a parameter is out of range", () -> {
            BellController x = tune(1, "a");
            int[][] wrong = {{-1, 1, 0}, {100001, 1, 0}, {10, 0, 0}, {10, 201, 0}, {10, 1, -1}, {10, 1, 501},
                {-1, 0, -1}, {100001, 201, 501}, {Integer.MAX_VALUE, 1, 500}, {100000, 1, Integer.MAX_VALUE},
                {Integer.MIN_VALUE, Integer.MIN_VALUE, Integer.MIN_VALUE}};
            for (int[] values : wrong) {
                Check.due("weave", x.weave(0, values[0], values[1], values[2]), Check.BAD_VALUE);
            }
            Check.due("scheduledCount()", x.scheduledCount(), 0);
        });
    }

    private static BellController slow(String text) {
        BellController x = Towers.bell(50, 100, 1, 10);
        x.addBell(50, 100, 1, 10);
        x.addBell(1, 0, 1, 10);
        Check.holds("the text is a pattern", Check.load(x, 0, text) > 0);
        return x;
    }

    private static void promise29() {
        Doc.says("promise 29", "Returns the smallest number of ticks per step with which the tune or a chime could be "
                + "played if nothing were scheduled, no hammer were occupied and no bell swung, with the present "
                + "delays and the present power limit, at a time that is late enough", () -> {
            BellController x = slow("ab ab");
            Check.due("fastestTicks(0)", x.fastestTicks(0), 150);
            x.scheduleStroke(0, 50);
            Towers.at(x, 50);
            x.startSwing(1, 1);
            x.scheduleStroke(0, 200);
            Check.due("with strokes and swinging", x.fastestTicks(0), 150);
            Check.due("scheduledCount()", x.scheduledCount(), 1);
            x.calibrate(0, 1);
            Check.due("the present delay of bell 1", x.fastestTicks(0), 150);
            x.calibrate(1, 1);
            Check.due("the present delays", x.fastestTicks(0), 138);
            x.setPowerLimit(1);
            Check.due("the present power limit", x.fastestTicks(0), Check.NONE);
            Towers.at(x, 100000);
            x.setPowerLimit(2);
            Check.due("at the end of time", x.fastestTicks(0), 138);
        });
        Doc.says("promise 29", "Returns the ticks per step, 1 to 200", () -> {
            Check.due("a single step", slow("abc").fastestTicks(0), 1);
            Check.due("no strokes", slow("l-l").fastestTicks(0), 1);
            Check.due("no bells", tune(0, "a a a").fastestTicks(0), 1);
            Check.due("75 ticks twice", slow("a-a").fastestTicks(0), 75);
            Check.due("150 ticks", slow("a a").fastestTicks(0), 150);
            Check.due("eleven steps apart", slow("a (-)10 a").fastestTicks(0), 14);
            BellController x = slow("a (-20)4 -18 a");
            Check.due("99 steps", x.fastestTicks(0), 2);
        });
    }

    private static void promise29Limits() {
        Doc.says("promise 29", "NONE if there is no such number", () -> {
            BellController x = tune(4, "abcd");
            Check.due("more hammers than may move", x.fastestTicks(0), Check.NONE);
            x.setPowerLimit(4);
            Check.due("as many as may move", x.fastestTicks(0), 1);
            BellController y = tune(4, "((abc)10)10");
            Check.due("300 strokes", y.fastestTicks(0), 1);
            Check.load(y, 0, "((abc)10)9(abc)9abcd");
            y.setPowerLimit(12);
            Check.due("301 strokes", y.fastestTicks(0), Check.NONE);
        });
        Doc.says("promise 29", "- `which`: 0 for the tune, 1 to 4 for a chime", () -> Edges.patterns("fastestTicks",
                BellController::fastestTicks));
        Doc.says("promise 29", "NO_SUCH if which is out of range", () -> {
            for (int value : new int[] {-1, 5, Integer.MIN_VALUE, Integer.MAX_VALUE}) {
                Check.due("without patterns", new BellController().fastestTicks(value), Check.NO_SUCH);
            }
        });
        Doc.says("promise 29", "MISSING if the pattern is missing", () -> Edges.missing("fastestTicks",
                BellController::fastestTicks));
    }

    private static void promise30() {
        Doc.says("promise 30", "Returns the greatest number of strokes of the tune or a chime whose hammers would move "
                + "at the same tick, with the present delays", () -> {
            BellController x = slow("((ab)10)10");
            int[][] due = {{1, 100}, {2, 50}, {7, 16}, {16, 8}, {17, 6}, {24, 6}, {25, 4}, {49, 4}, {50, 2}, {200, 2}};
            for (int[] pair : due) {
                Check.due("powerNeeded(0, " + pair[0] + ")", x.powerNeeded(0, pair[0]), pair[1]);
            }
            x.calibrate(0, 1);
            x.calibrate(1, 1);
            Check.due("with delays of 38", x.powerNeeded(0, 37), 4);
            Check.due("with delays of 38", x.powerNeeded(0, 38), 2);
            Check.due("no strokes", slow("l-").powerNeeded(0, 1), 0);
            Check.due("a stroke", slow("-a-").powerNeeded(0, 1), 1);
            BellController all = tune(12, "((abcdefghijkl)10)10");
            Check.due("all bells", all.powerNeeded(0, 1), 12);
            Check.due("the most at the last steps", slow("a (-20)4 -15 a-ab").powerNeeded(0, 30), 2);
            Check.due("the most at the last steps", slow("a (-20)4 -15 a-ab").powerNeeded(0, 24), 3);
            Check.due("the most in the middle", slow("a -9 abc -9 a").powerNeeded(0, 6), 3);
        });
        Doc.says("promise 30", "Neither the power limit nor occupied hammers matter", () -> {
            BellController x = slow("ab ab");
            x.setPowerLimit(1);
            x.scheduleStroke(0, 50);
            Check.due("powerNeeded(0, 49)", x.powerNeeded(0, 49), 4);
            x.advance(60);
            x.startSwing(1, 1);
            Check.due("powerNeeded(0, 49)", x.powerNeeded(0, 49), 4);
        });
        Doc.says("promise 30", "- `which`: 0 for the tune, 1 to 4 for a chime", () -> Edges.patterns("powerNeeded",
                (x, value) -> x.powerNeeded(value, 1)));
        Doc.says("promise 30", "- `ticks`: ticks per step, 1 to 200", () -> Edges.range("ticks", 1, 200, Check.BAD_VALUE,
                () -> tune(1, "a"), (x, value) -> x.powerNeeded(0, value)));
        Doc.says("promise 30", "NO_SUCH if which is out of range", () -> {
            for (int value : new int[] {-1, 5, Integer.MIN_VALUE, Integer.MAX_VALUE}) {
                Check.due("without patterns", new BellController().powerNeeded(value, 1), Check.NO_SUCH);
            }
        });
        Doc.says("promise 30", "MISSING if the pattern is missing", () -> Edges.missing("powerNeeded",
                (x, value) -> x.powerNeeded(value, 1)));
        Doc.says("promise 30", "BAD_VALUE if ticks is out of range", () -> {
            for (int ticks : new int[] {0, -1, 201, Integer.MIN_VALUE, Integer.MAX_VALUE}) {
                Check.due("of rests", tune(0, "-").powerNeeded(0, ticks), Check.BAD_VALUE);
                Check.due("of strokes", tune(1, "a").powerNeeded(0, ticks), Check.BAD_VALUE);
            }
        });
    }
}
