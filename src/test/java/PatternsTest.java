/** Promises 21 to 30: the text buffer, the tune and the chimes. */
public final class PatternsTest {
    private static void append() {
        BellController x = new BellController();
        // "ab-c", and "(lk)" with its sign bit's neighbours; then bytes above 127
        Check.due("appendBytes", x.appendBytes(0x61622d63, 0x286c6b29, 0x32202020, 0x20202020, 0x2020204c), 20);
        Check.due("loadPattern(0, 19)", x.loadPattern(0, 19), 5);
        int[] steps = {3, 0, 4, 0xc00, 0xc00};
        for (int step = 0; step < 5; step++) {
            Check.due("stepBells(0, " + step + ")", x.stepBells(0, step), steps[step]);
        }
        Check.due("appendBytes", x.appendBytes(-1, 0x61616161, 0x80808080, 0, 0), 20);
        Check.due("a byte of 255", x.loadPattern(0, 4), -31);
        Check.due("patternErrorPosition()", x.patternErrorPosition(), 0);
        for (int length = 20; length <= 300; length += 20) {
            Check.due("appendBytes", x.appendBytes(0x2d2d2d2d, 0x2d2d2d2d, 0x2d2d2d2d, 0x2d2d2d2d, 0x2d202020), length);
        }
        Check.due("appendBytes to 300", x.appendBytes(0, 0, 0, 0, 0), Check.FULL);
        Check.due("appendBytes to 300", x.appendBytes(0, 0, 0, 0, 0), Check.FULL);
        Check.due("loadPattern(1, 301)", x.loadPattern(1, 301), Check.BAD_VALUE);
        Check.due("loadPattern(1, 300)", x.loadPattern(1, 300), -34);
        Check.due("patternErrorPosition()", x.patternErrorPosition(), 115);
        Check.due("the buffer is empty", x.loadPattern(1, 1), Check.BAD_VALUE);
        Check.due("appendBytes", x.appendBytes(0, 0, 0, 0, 0), 20);
    }

    private static void buffer() {
        BellController x = new BellController();
        Check.append(x, "a");
        Check.due("loadPattern(-1, 1)", x.loadPattern(-1, 1), Check.NO_SUCH);
        Check.due("loadPattern(5, 1)", x.loadPattern(5, 1), Check.NO_SUCH);
        Check.due("loadPattern(5, -1)", x.loadPattern(5, -1), Check.NO_SUCH);
        Check.due("loadPattern(0, -1)", x.loadPattern(0, -1), Check.BAD_VALUE);
        Check.due("loadPattern(0, 21)", x.loadPattern(0, 21), Check.BAD_VALUE);
        for (int far : Check.FAR) {
            Check.due("loadPattern", x.loadPattern(far, 1), Check.NO_SUCH);
            Check.due("loadPattern", x.loadPattern(0, far), Check.BAD_VALUE);
        }
        Check.due("patternError()", x.patternError(), 0);
        Check.due("the buffer is kept", x.loadPattern(0, 1), 1);
        Check.due("stepBells(0, 0)", x.stepBells(0, 0), 1);
        Check.due("an error", Check.load(x, 0, "bx"), -31);
        Check.due("the buffer is empty", x.loadPattern(0, 1), Check.BAD_VALUE);
        Check.due("patternError()", x.patternError(), 1);
        Check.due("patternErrorPosition()", x.patternErrorPosition(), 1);
        Check.due("the previous pattern remains", x.stepBells(0, 0), 1);
        Check.due("loadPattern(0, 0)", x.loadPattern(0, 0), -35);
        Check.due("patternErrorPosition()", x.patternErrorPosition(), 0);
        Check.due("another pattern", Check.load(x, 0, "c-"), 2);
        Check.due("stepBells(0, 0)", x.stepBells(0, 0), 4);
        Check.due("patternError()", x.patternError(), 0);
        Check.due("patternErrorPosition()", x.patternErrorPosition(), Check.NONE);
        for (int which = 1; which < 5; which++) {
            Check.due("stepBells", x.stepBells(which, 0), Check.MISSING);
            Check.due("loadPattern", Check.load(x, which, "a" + which), which);
            Check.due("stepBells", x.stepBells(which, which), Check.NONE);
        }
        Check.due("stepBells(0, 0)", x.stepBells(0, 0), 4);
    }

    private static void read(String text, int answer, int code, int position) {
        BellController x = new BellController();
        Check.due("loadPattern of '" + text + "'", Check.load(x, 3, text), answer);
        Check.due("patternError of '" + text + "'", x.patternError(), code);
        Check.due("patternErrorPosition of '" + text + "'", x.patternErrorPosition(), position);
    }

    private static void good(String text, int... steps) {
        read(text, steps.length, 0, Check.NONE);
        BellController x = new BellController();
        Check.load(x, 2, text);
        for (int step = 0; step < steps.length; step++) {
            Check.due("step " + step + " of '" + text + "'", x.stepBells(2, step), steps[step]);
        }
        Check.due("behind '" + text + "'", x.stepBells(2, steps.length), Check.NONE);
    }

    private static void bad(String text, int code, int position) {
        read(text, -30 - code, code, position);
    }

    private static void goodTexts() {
        good("a", 1);
        good("-", 0);
        good("l", 2048);
        good("abcdefghijkl", 4095);
        good("aba", 3);
        good("a-b", 1, 0, 2);
        good("a b", 1, 2);
        good("a3b2-2c", 1, 0, 0, 2, 0, 0, 0, 4);
        good("a02-01", 1, 0, 0);
        good("  a  b  ", 1, 2);
        good("(a)1", 1);
        good("( a b )2", 1, 2, 1, 2);
        good("(a(b)2)2c", 1, 2, 2, 1, 2, 2, 4);
        good("(((a)2-)2 )2", 1, 1, 0, 1, 1, 0, 1, 1, 0, 1, 1, 0);
        good("((a)1(b)1(c(d)1)1)1", 1, 2, 4, 8);
        good("a20", 1, 0, 0, 0, 0, 0, 0, 0, 0, 0, 0, 0, 0, 0, 0, 0, 0, 0, 0, 0);
        good("a1(b)1-1", 1, 2, 0);
        read("-20-20-20-20-20", 100, 0, Check.NONE);
        read("((-)10)10", 100, 0, Check.NONE);
        read("(ab-3)20 -20", 100, 0, Check.NONE);
    }

    private static void badCharacters() {
        bad("m", 1, 0);
        bad("A", 1, 0);
        bad("`", 1, 0);
        bad("a?", 1, 1);
        bad("a\n", 1, 1);
        bad(")", 1, 0);
        bad("a)", 1, 1);
        bad("a )", 1, 2);
        bad("1", 1, 0);
        bad(" 1", 1, 1);
        bad("a 2", 1, 2);
        bad("a123", 1, 3);
        bad("a2 3", 1, 3);
        bad("(a)", 1, 3);
        bad("(a)b", 1, 3);
        bad("(a) 2", 1, 3);
        bad("(a)(", 1, 3);
        bad("(a)123", 1, 5);
        bad("(2)", 1, 1);
        bad("(", 1, 1);
        bad("( ", 1, 2);
        bad("(a", 1, 2);
        bad("(a ", 1, 3);
        bad("((a)2", 1, 5);
        bad("(a)2)2", 1, 4);
        bad("a\u0000", 1, 1);
        bad("a\u00e1", 1, 1);
        bad("a/", 1, 1);
        bad("a:", 1, 1);
    }

    private static void badNumbers() {
        bad("a0", 2, 1);
        bad("a00", 2, 1);
        bad("a21", 2, 1);
        bad("a99", 2, 1);
        bad("a210", 2, 1);
        bad("a001", 2, 1);
        bad("-0", 2, 1);
        bad("ab-30x", 2, 3);
        bad("(a)0", 2, 3);
        bad("(a)21", 2, 3);
        bad("(a )20(b)30", 2, 9);
    }

    private static void badGroups() {
        bad("((((", 3, 3);
        bad("((((a", 3, 3);
        bad("( ( (a(b)1)1)1", 3, 6);
        bad("(a(b(c(d)1)1)1)1", 3, 6);
        bad("", 5, 0);
        bad("   ", 5, 3);
        bad("()", 5, 1);
        bad("(  )2", 5, 3);
        bad("a()", 5, 2);
        bad("(a()2)2", 5, 3);
        bad("(a)1()", 5, 5);
    }

    private static void tooLong() {
        String full = "-20-20-20-20-20";
        bad(full + "a", 4, 15);
        bad(full + "  a", 4, 17);
        bad(full + "aaa?", 4, 15);
        bad("-20-20-20-20-19-2", 4, 15);
        bad("-20-20-20-20-19-2x", 4, 15);
        bad("-20-20-20-20-19-223", 2, 16);
        bad("-20-20-20-20-19-213", 2, 16);
        bad("-20-20-20-20-19-203", 4, 15);
        bad(full + "a0", 2, 16);
        bad(full + "(a)1", 4, 16);
        bad(full + "()1", 5, 16);
        bad(full + " (", 1, 17);
        bad("(-20)6", 4, 0);
        bad("b(-20)5", 4, 1);
        bad("b(-20)50", 2, 6);
        bad("b(-20)53", 2, 6);
        bad("b(-20)123", 4, 1);
        bad("b (-20-20-20)2", 4, 2);
        bad("(-20 (-20)4 c)1", 4, 12);
        bad("((-20)5)2", 4, 0);
        bad("((-20)6)2", 4, 1);
        bad("(((-20)5a)1)1", 4, 8);
        bad("(((-)20)5)2", 4, 0);
        bad("((a)20(b)20(c)20)2", 4, 0);
    }

    private static void stepBells() {
        BellController x = new BellController();
        Check.load(x, 4, "ab-c");
        Check.due("stepBells(-1, 0)", x.stepBells(-1, 0), Check.NO_SUCH);
        Check.due("stepBells(5, 0)", x.stepBells(5, 0), Check.NO_SUCH);
        Check.due("stepBells(3, 0)", x.stepBells(3, 0), Check.MISSING);
        Check.due("stepBells(3, -1)", x.stepBells(3, -1), Check.MISSING);
        for (int step : new int[] {-1, 3, 100, Integer.MIN_VALUE, Integer.MAX_VALUE}) {
            Check.due("stepBells", x.stepBells(4, step), Check.NONE);
        }
        // a shorter pattern leaves no steps of the longer one
        Check.load(x, 4, "d");
        Check.due("stepBells(4, 0)", x.stepBells(4, 0), 8);
        Check.due("stepBells(4, 1)", x.stepBells(4, 1), Check.NONE);
    }

    private static void strokes() {
        BellController x = new BellController();
        Check.due("patternStrokes(0)", x.patternStrokes(0), Check.MISSING);
        Check.due("patternStrokes(-1)", x.patternStrokes(-1), Check.NO_SUCH);
        Check.due("patternStrokes(5)", x.patternStrokes(5), Check.NO_SUCH);
        Check.load(x, 0, "aa(ab)3 -4 l");
        Check.due("patternStrokes(0)", x.patternStrokes(0), 0);
        x.addBell(1, 0, 1, 10);
        Check.due("patternStrokes(0)", x.patternStrokes(0), 4);
        for (int bell = 1; bell < 12; bell++) {
            x.addBell(1, 0, 1, 10);
            Check.due("patternStrokes(0)", x.patternStrokes(0), bell < 11 ? 7 : 8);
        }
        Check.load(x, 0, "((abcdefghijkl)10)10");
        Check.due("patternStrokes(0)", x.patternStrokes(0), 1200);
    }

    private static void play() {
        BellController x = new BellController();
        x.addBell(10, 3, 1, 10);
        x.addBell(5, 0, 1, 10);
        Check.due("play(0, 20, 5)", x.play(0, 20, 5), Check.MISSING);
        Check.due("play(0, -1, 0)", x.play(0, -1, 0), Check.MISSING);
        Check.load(x, 0, "ac-b");
        Check.due("play(-1, 20, 5)", x.play(-1, 20, 5), Check.NO_SUCH);
        Check.due("play(5, -1, 0)", x.play(5, -1, 0), Check.NO_SUCH);
        Check.due("play(0, -1, 5)", x.play(0, -1, 5), Check.BAD_VALUE);
        Check.due("play(0, 100001, 5)", x.play(0, 100001, 5), Check.BAD_VALUE);
        Check.due("play(0, 20, 0)", x.play(0, 20, 0), Check.BAD_VALUE);
        Check.due("play(0, 20, 201)", x.play(0, 20, 201), Check.BAD_VALUE);
        for (int far : Check.FAR) {
            Check.due("play", x.play(far, 20, 5), Check.NO_SUCH);
            Check.due("play", x.play(0, far, 5), Check.BAD_VALUE);
            Check.due("play", x.play(0, 20, far), Check.BAD_VALUE);
        }
        Check.due("play(0, 9, 5)", x.play(0, 9, 5), Check.TOO_LATE);
        Check.due("play(0, 10, 200)", x.play(0, 10, 200), 2);
        Check.due("commandTime(0)", x.commandTime(0), 0);
        Check.due("commandTime(1)", x.commandTime(1), 405);
        Check.due("play(0, 11, 6)", x.play(0, 11, 6), Check.CLASH);
        Check.due("the last step is too late", x.play(0, 99999, 1), Check.BAD_VALUE);
        Check.due("play(0, 99998, 1)", x.play(0, 99998, 1), 2);
        Check.due("scheduledCount()", x.scheduledCount(), 4);
        Check.load(x, 1, "-20");
        Check.due("rests", x.play(1, 100000, 200), 0);
        Check.due("rests", x.play(1, 0, 1), 0);
        Check.due("rests", x.weave(1, 0, 1, 0), 0);
        Check.due("scheduledCount()", x.scheduledCount(), 4);
    }

    private static void playAllOrNothing() {
        BellController x = new BellController();
        x.addBell(10, 3, 1, 10);
        x.addBell(5, 0, 1, 10);
        x.addBell(5, 0, 1, 10);
        x.setPowerLimit(2);
        Check.load(x, 0, "a b a");
        Check.due("clash with itself", x.play(0, 20, 6), Check.CLASH);
        Check.due("scheduledCount()", x.scheduledCount(), 0);
        Check.due("movingHammers(15)", x.movingHammers(15), 0);
        Check.load(x, 1, "a-abc");
        Check.due("power", x.play(1, 20, 13), Check.POWER);
        Check.due("scheduledCount()", x.scheduledCount(), 0);
        Check.due("the first failing stroke decides", x.play(1, 20, 6), Check.CLASH);
        Check.load(x, 2, "(b--c)2");
        x.startSwing(2, 10);
        Check.due("a swinging bell", x.play(2, 20, 6), Check.SWINGING);
        Check.due("scheduledCount()", x.scheduledCount(), 0);
        Check.due("play(0, 20, 7)", x.play(0, 20, 7), 3);
    }

    private static void playFull() {
        BellController x = Check.quickBells(3);
        for (int time = 1; time <= 296; time++) {
            x.scheduleStroke(2, 1000 + time);
        }
        Check.load(x, 0, "a b a b a");
        Check.due("one stroke too many", x.play(0, 10, 5), Check.FULL);
        Check.due("weave", x.weave(0, 10, 5, 500), Check.NONE);
        Check.due("scheduledCount()", x.scheduledCount(), 296);
        Check.load(x, 0, "(a b)2");
        Check.due("play(0, 10, 5)", x.play(0, 10, 5), 4);
        Check.due("scheduledCount()", x.scheduledCount(), 300);
        Check.load(x, 0, "l");
        Check.due("no strokes when full", x.play(0, 10, 5), 0);
        Check.due("no strokes when full", x.weave(0, 10, 5, 5), 0);
    }

    private static void weave() {
        BellController x = new BellController();
        x.addBell(10, 5, 1, 10);
        x.addBell(5, 0, 1, 10);
        Check.due("weave(0, 20, 5, 5)", x.weave(0, 20, 5, 5), Check.MISSING);
        Check.due("weave(0, -1, 0, -1)", x.weave(0, -1, 0, -1), Check.MISSING);
        Check.load(x, 0, "a-b");
        Check.due("weave(-1, 20, 5, 5)", x.weave(-1, 20, 5, 5), Check.NO_SUCH);
        Check.due("weave(5, 20, 5, 5)", x.weave(5, 20, 5, 5), Check.NO_SUCH);
        for (int wrong : new int[] {-1, 100001, Integer.MIN_VALUE, Integer.MAX_VALUE}) {
            Check.due("weave", x.weave(0, wrong, 5, 5), Check.BAD_VALUE);
            Check.due("weave", x.weave(wrong, 5, 5, 5), Check.NO_SUCH);
            Check.due("weave", x.weave(0, 20, 5, wrong), Check.BAD_VALUE);
        }
        for (int wrong : new int[] {0, 201, Integer.MIN_VALUE, Integer.MAX_VALUE}) {
            Check.due("weave", x.weave(0, 20, wrong, 5), Check.BAD_VALUE);
        }
        Check.due("weave(0, 20, 5, 501)", x.weave(0, 20, 5, 501), Check.BAD_VALUE);
        Check.due("too early", x.weave(0, 0, 5, 9), Check.NONE);
        Check.due("scheduledCount()", x.scheduledCount(), 0);
        Check.due("weave(0, 0, 5, 10)", x.weave(0, 0, 5, 10), 10);
        Check.due("scheduledCount()", x.scheduledCount(), 2);
        Check.due("weave(0, 20, 5, 4)", x.weave(0, 20, 5, 4), Check.NONE);
        Check.due("weave(0, 20, 5, 5)", x.weave(0, 20, 5, 5), 5);
        Check.due("nextStroke(0)", x.nextStroke(0), 10);
        Check.due("commandTime(2)", x.commandTime(2), 15);
        Check.due("weave(0, 500, 200, 0)", x.weave(0, 500, 200, 0), 0);
        Check.due("at the end of time", x.weave(0, 99991, 5, 500), Check.NONE);
        Check.due("at the end of time", x.weave(0, 99989, 5, 500), 0);
        Check.due("at the end of time", x.weave(0, 99970, 5, 500), 0);
        Check.load(x, 1, "-");
        Check.due("rests", x.weave(1, 100000, 200, 500), 0);
    }

    /** What stands in the way of a weave besides scheduled strokes. */
    private static void hinderedWeave() {
        BellController x = new BellController();
        x.addBell(10, 40, 1, 10);
        x.addBell(5, 0, 1, 10);
        x.scheduleStroke(0, 10);
        x.advance(10);
        Check.load(x, 0, "a");
        Check.due("behind a sounded stroke", x.weave(0, 20, 1, 39), Check.NONE);
        Check.due("behind a sounded stroke", x.weave(0, 20, 1, 40), 40);
        Check.load(x, 1, "b3a");
        x.startSwing(1, 10);
        Check.due("a bell that swings", x.weave(1, 100, 5, 500), Check.NONE);
        Check.due("scheduledCount()", x.scheduledCount(), 1);
        Check.load(x, 2, "aa a");
        Check.due("clash with itself", x.weave(2, 200, 49, 500), Check.NONE);
        Check.due("weave(2, 200, 50, 500)", x.weave(2, 200, 50, 500), 0);
        x.addBell(3, 0, 1, 10);
        x.setPowerLimit(1);
        Check.load(x, 3, "c");
        Check.due("power", x.weave(3, 191, 1, 11), Check.NONE);
        Check.due("power", x.weave(3, 191, 1, 12), 12);
    }

    private static void fastest() {
        BellController x = new BellController();
        x.addBell(10, 25, 1, 10);
        x.addBell(40, 100, 1, 10);
        x.addBell(50, 100, 1, 10);
        Check.due("fastestTicks(0)", x.fastestTicks(0), Check.MISSING);
        Check.due("fastestTicks(-1)", x.fastestTicks(-1), Check.NO_SUCH);
        Check.due("fastestTicks(5)", x.fastestTicks(5), Check.NO_SUCH);
        Check.load(x, 0, "aaa");
        Check.due("fastestTicks(0)", x.fastestTicks(0), 1);
        Check.load(x, 0, "a a");
        Check.due("fastestTicks(0)", x.fastestTicks(0), 35);
        Check.load(x, 0, "a-a");
        Check.due("fastestTicks(0)", x.fastestTicks(0), 18);
        Check.load(x, 0, "c c");
        Check.due("fastestTicks(0)", x.fastestTicks(0), 150);
        Check.load(x, 1, "ab");
        x.setPowerLimit(1);
        Check.due("fastestTicks(1)", x.fastestTicks(1), Check.NONE);
        Check.load(x, 1, "a-b");
        // b moves in the 40 ticks before its stroke, a in the 10 before its own, which is two steps earlier
        Check.due("fastestTicks(1)", x.fastestTicks(1), 20);
        Check.load(x, 1, "b-a");
        Check.due("fastestTicks(1)", x.fastestTicks(1), 5);
        x.calibrate(0, 50);
        Check.due("the present delays", x.fastestTicks(1), 10);
        x.setPowerLimit(2);
        Check.due("the present power limit", x.fastestTicks(1), 1);
        Check.load(x, 2, "l-k");
        Check.due("no strokes", x.fastestTicks(2), 1);
    }

    /** Neither what is scheduled nor what swings nor the time matters. */
    private static void fastestAnyhow() {
        BellController x = new BellController();
        x.addBell(10, 20, 1, 10);
        x.addBell(10, 20, 1, 10);
        Check.load(x, 0, "a ab");
        Check.due("fastestTicks(0)", x.fastestTicks(0), 30);
        x.scheduleStroke(0, 10);
        x.startSwing(1, 10);
        x.advance(10);
        x.scheduleStroke(0, 40);
        Check.due("fastestTicks(0)", x.fastestTicks(0), 30);
        Check.due("scheduledCount()", x.scheduledCount(), 1);
        for (int i = 0; i < 49; i++) {
            x.advance(2000);
        }
        x.advance(1990);
        Check.due("fastestTicks(0)", x.fastestTicks(0), 30);
    }

    /** A pattern of more than 300 strokes can't be played; not every greater number of ticks is good too. */
    private static void fastestLimits() {
        BellController x = Check.quickBells(12);
        Check.load(x, 0, "((abc)10)10");
        Check.due("300 strokes", x.fastestTicks(0), 1);
        Check.load(x, 0, "d (abc)9((abc)10)9");
        Check.due("298 strokes", x.patternStrokes(0), 298);
        Check.load(x, 0, "((abc)10)9 (abc)9 abcd");
        Check.due("301 strokes", x.patternStrokes(0), 301);
        x.setPowerLimit(12);
        Check.due("301 strokes", x.fastestTicks(0), Check.NONE);
        Check.due("weave", x.weave(0, 10, 1, 500), Check.NONE);
        Check.due("play", x.play(0, 10, 1), Check.FULL);
    }

    private static void powerNeeded() {
        BellController x = new BellController();
        x.addBell(10, 0, 1, 10);
        x.addBell(5, 100, 1, 10);
        x.addBell(50, 100, 1, 10);
        Check.due("powerNeeded(0, 1)", x.powerNeeded(0, 1), Check.MISSING);
        Check.due("powerNeeded(0, 0)", x.powerNeeded(0, 0), Check.MISSING);
        Check.due("powerNeeded(-1, 1)", x.powerNeeded(-1, 1), Check.NO_SUCH);
        Check.due("powerNeeded(5, 0)", x.powerNeeded(5, 0), Check.NO_SUCH);
        Check.load(x, 0, "abd");
        Check.due("powerNeeded(0, 1)", x.powerNeeded(0, 1), 2);
        Check.due("powerNeeded(0, 200)", x.powerNeeded(0, 200), 2);
        for (int wrong : new int[] {0, 201, -1, Integer.MIN_VALUE, Integer.MAX_VALUE}) {
            Check.due("powerNeeded", x.powerNeeded(0, wrong), Check.BAD_VALUE);
            Check.due("powerNeeded", x.powerNeeded(wrong == 0 ? 9 : wrong, 1), Check.NO_SUCH);
        }
        Check.load(x, 0, "((bb)10)10");
        Check.due("powerNeeded(0, 200)", x.powerNeeded(0, 200), 1);
        Check.load(x, 0, "((b)10)10");
        Check.due("powerNeeded(0, 5)", x.powerNeeded(0, 5), 1);
        Check.due("powerNeeded(0, 4)", x.powerNeeded(0, 4), 2);
        Check.due("powerNeeded(0, 1)", x.powerNeeded(0, 1), 5);
        Check.load(x, 0, "((c)10)10");
        Check.due("powerNeeded(0, 1)", x.powerNeeded(0, 1), 50);
        Check.due("powerNeeded(0, 49)", x.powerNeeded(0, 49), 2);
        Check.due("powerNeeded(0, 50)", x.powerNeeded(0, 50), 1);
        Check.load(x, 0, "a b c");
        // with 20 ticks a step: a in [-10, 0), b in [15, 20), c in [-10, 40)
        Check.due("powerNeeded(0, 20)", x.powerNeeded(0, 20), 2);
        Check.due("powerNeeded(0, 4)", x.powerNeeded(0, 4), 3);
        Check.due("powerNeeded(0, 5)", x.powerNeeded(0, 5), 2);
        x.calibrate(1, 9);
        Check.due("the present delays", x.powerNeeded(0, 5), 3);
        x.setPowerLimit(1);
        Check.due("the power limit", x.powerNeeded(0, 5), 3);
        Check.load(x, 1, "l");
        Check.due("no strokes", x.powerNeeded(1, 1), 0);
    }

    public static void main(String[] args) {
        append();
        buffer();
        goodTexts();
        badCharacters();
        badNumbers();
        badGroups();
        tooLong();
        stepBells();
        strokes();
        play();
        playAllOrNothing();
        playFull();
        weave();
        hinderedWeave();
        fastest();
        fastestAnyhow();
        fastestLimits();
        powerNeeded();
        Check.end();
    }
}
