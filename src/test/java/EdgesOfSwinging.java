/** Section 4, as far as it tells how bells swing, and promises 37 to 43: a test for each boundary. */
final class EdgesOfSwinging {
    private EdgesOfSwinging() { }

    static void all() {
        section4Start();
        section4Turns();
        section4Amplitudes();
        section4Clappers();
        promise37();
        promise37Refusals();
        promise37TooStrong();
        promise38();
        promise39();
        promise40();
        promise41();
        promise42();
        promise43();
    }

    /** A bell of weight 50 that has been started with a target. */
    private static BellController swinging(int halfPeriod, int target) {
        BellController x = Towers.bell(10, 20, 50, halfPeriod);
        Check.due("startSwing", x.startSwing(0, target), halfPeriod);
        return x;
    }

    private static void section4Start() {
        Doc.says("section 4", "A bell that swings has an amplitude from 0 to 1000 and a side, +1 or -1", () -> {
            BellController x = swinging(10, 1000);
            Check.due("at first", x.amplitude(0), 0);
            Check.due("amplitudeAfter(0, 15)", x.amplitudeAfter(0, 15), 960);
            for (int turns = 16; turns <= 200; turns++) {
                Check.due("amplitudeAfter(0, " + turns + ")", x.amplitudeAfter(0, turns), 1000);
            }
            x.advance(160);
            Check.due("amplitude(0)", x.amplitude(0), 1000);
            Check.due("side +1", x.force(0), 100500);
            x.advance(10);
            Check.due("amplitude(0)", x.amplitude(0), 1000);
            Check.due("side -1", x.force(0), 99500);
        });
        Doc.says("section 4", "When it is started at a time t, its amplitude is 0, its side is +1, its motor is "
                + "switched on, and it has a target amplitude", () -> {
            BellController x = Towers.at(Towers.bell(10, 20, 50, 10), 33);
            for (int start = 0; start < 3; start++) {
                Check.due("startSwing(0, 100)", x.startSwing(0, 100), x.currentTime() + 10);
                Check.due("amplitude(0)", x.amplitude(0), 0);
                Check.due("force(0)", x.force(0), 100000);
                x.advance(10);
                Check.due("the motor lifts it", x.amplitude(0), 80);
                Check.due("the side -1 behind +1", x.force(0), 100000 - 40);
                Check.due("up to its target", x.amplitudeAfter(0, 1), 100);
                x.stopMotor(0);
                x.advance(397);
                Check.due("when it has stopped", x.amplitude(0), Check.NONE);
            }
            // a swing of a single turn leaves the side -1 behind
            x.startSwing(0, 1);
            x.stopMotor(0);
            x.advance(10);
            x.startSwing(0, 100);
            x.advance(10);
            Check.due("its side is +1 again at the start", x.force(0), 100000 - 40);
        });
        Doc.says("section 4", "It turns at the times t + h, t + 2 * h, and so on, where h is the half period", () -> {
            for (int half : new int[] {10, 11, 59, 60}) {
                BellController x = swinging(half, 1000);
                x.advance(half - 1);
                Check.due("before t + h", x.amplitude(0), 0);
                x.advance(1);
                Check.due("at t + h", x.amplitude(0), 80);
                Check.due("nextTurn(0)", x.nextTurn(0), 2 * half);
                x.advance(half - 1);
                Check.due("before t + 2 * h", x.amplitude(0), 80);
                x.advance(1);
                Check.due("at t + 2 * h", x.amplitude(0), 156);
                Check.due("nextTurn(0)", x.nextTurn(0), 3 * half);
            }
        });
    }

    private static void section4Turns() {
        Doc.says("section 4", "At a turn the following happens, in this order: its side changes its sign", () -> {
            BellController x = swinging(10, 80);
            for (int turn = 1; turn <= 6; turn++) {
                x.advance(10);
                Check.due("force(0)", x.force(0), 100000 + (turn % 2 == 0 ? 40 : -40));
            }
        });
        Doc.says("section 4", "If the amplitude is 0 and the motor is off, the bell stops swinging", () -> {
            BellController x = swinging(10, 100);
            x.stopMotor(0);
            Check.due("not before a turn", x.amplitude(0), 0);
            x.advance(9);
            Check.due("not before a turn", x.amplitude(0), 0);
            x.advance(1);
            Check.due("at its first turn", x.amplitude(0), Check.NONE);
            int[] lasts = {1, 2, 3};
            int[] next = {Check.NONE, Check.NONE, 1};
            for (int i = 0; i < lasts.length; i++) {
                BellController y = Towers.fading(lasts[i]);
                y.advance(10);
                Check.due("from an amplitude of " + lasts[i], y.amplitude(0), next[i]);
            }
            BellController z = swinging(10, 1);
            z.advance(500);
            Check.due("with its motor on", z.amplitude(0), 1);
        });
    }

    private static void section4Amplitudes() {
        Doc.says("section 4", "The amplitude decreases by amplitude * 30 / 1000 (rounded down) + 2, but not below 0", () -> {
            int[][] fades = {{1, 0}, {2, 0}, {3, 1}, {33, 31}, {34, 31}, {66, 63}, {67, 63}, {99, 95}, {100, 95},
                {399, 386}, {400, 386}, {999, 968}, {1000, 968}};
            for (int[] fade : fades) {
                BellController x = Towers.fading(fade[0]);
                Check.due("from " + fade[0], x.amplitudeAfter(0, 1), fade[1]);
                x.advance(10);
                Check.due("from " + fade[0], Math.max(0, x.amplitude(0)), fade[1]);
            }
        });
        Doc.says("section 4", "If the motor is on and the amplitude is less than the target, the amplitude grows by 80, "
                + "but not above the target", () -> {
            int[][] growths = {{1, 1, 1}, {79, 79, 79}, {80, 80, 80}, {81, 80, 81}, {155, 80, 155}, {156, 80, 156},
                {157, 80, 156}, {1000, 80, 156}};
            for (int[] growth : growths) {
                BellController x = swinging(10, growth[0]);
                Check.due("the first turn to " + growth[0], x.amplitudeAfter(0, 1), growth[1]);
                Check.due("the second turn to " + growth[0], x.amplitudeAfter(0, 2), growth[2]);
                x.advance(20);
                Check.due("the second turn to " + growth[0], x.amplitude(0), growth[2]);
                x.advance(300);
                Check.due("in the end", x.amplitude(0), growth[0]);
            }
            BellController x = swinging(10, 1000);
            x.advance(10);
            x.stopMotor(0);
            x.advance(10);
            Check.due("with the motor off", x.amplitude(0), 76);
        });
    }

    private static void section4Clappers() {
        Doc.says("section 4", "If the amplitude is at least 400 and the clapper is not held, the clapper strikes", () -> {
            BellController x = swinging(10, 399);
            Check.due("up to 399", x.advance(500), 0);
            BellController y = swinging(10, 400);
            Check.due("400 comes with the sixth turn", y.advance(59), 0);
            Check.due("amplitudeAfter(0, 1)", y.amplitudeAfter(0, 1), 400);
            Check.due("advance(1)", y.advance(1), 1);
            y.holdClapper(0, true);
            Check.due("held", y.advance(100), 0);
            y.holdClapper(0, false);
            Check.due("not before a turn", y.advance(9), 0);
            Check.due("at each turn", y.advance(91), 10);
            y.stopMotor(0);
            Check.due("below 400 behind the turn", y.advance(500), 0);
            BellController z = Towers.fading(414);
            Check.due("414 becomes 400, which still strikes", z.advance(10), 1);
            Check.due("400 becomes 386", z.advance(10), 0);
            Check.due("413 becomes 399", Towers.fading(413).advance(10), 0);
        });
        Doc.says("section 4", "The clappers of all bells are free at first", () -> {
            BellController x = Check.quickBells(12);
            for (int bell = 0; bell < 12; bell++) {
                Check.due("holdClapper", x.holdClapper(bell, false), 0);
                x.startSwing(bell, 400);
            }
            Check.due("all strike", x.advance(60), 12);
        });
        Doc.says("section 4", "A bell may be struck by its clapper only while it swings", () -> {
            BellController x = Towers.bell(10, 20, 50, 10);
            Check.due("without swinging", x.advance(500), 0);
            x.startSwing(0, 400);
            Check.due("while it swings", x.advance(60), 1);
            x.stopMotor(0);
            x.advance(2000);
            Check.due("when it has stopped", x.amplitude(0), Check.NONE);
            Check.due("recordLength()", x.recordLength(), 1);
        });
    }

    private static void promise37() {
        Doc.says("promise 37", "Returns the time of its first turn", () -> {
            Check.due("of half period 10", Towers.bell(1, 0, 1, 10).startSwing(0, 1), 10);
            Check.due("of half period 60", Towers.bell(1, 0, 1, 60).startSwing(0, 1), 60);
            Check.due("at 99999", Towers.at(Towers.bell(1, 0, 1, 60), 99999).startSwing(0, 1), 100059);
            Check.due("at 100000", Towers.at(Towers.bell(1, 0, 1, 60), 100000).startSwing(0, 1), 100060);
        });
        Doc.says("promise 37", "- `target`: target amplitude, 1 to 1000", () -> {
            Edges.range("target", 1, 1000, Check.BAD_VALUE, () -> Check.quickBells(1),
                    (x, value) -> x.startSwing(0, value));
            Check.due("of 1", swinging(10, 1).amplitudeAfter(0, 200), 1);
            Check.due("of 1000", swinging(10, 1000).amplitudeAfter(0, 200), 1000);
        });
        Doc.says("promise 37", "NO_SUCH if the bell does not exist", () -> Edges.bells("startSwing",
                (x, value) -> x.startSwing(value, 1000)));
        Doc.says("promise 37", "BAD_VALUE if the target is out of range", () -> {
            BellController x = Check.quickBells(1);
            for (int target : new int[] {0, -1, 1001, Integer.MIN_VALUE, Integer.MAX_VALUE}) {
                Check.due("startSwing", x.startSwing(0, target), Check.BAD_VALUE);
            }
            Check.due("amplitude(0)", x.amplitude(0), Check.NONE);
        });
    }

    private static void promise37Refusals() {
        Doc.says("promise 37", "SWINGING if it swings already", () -> {
            BellController x = swinging(10, 5);
            Check.due("right behind its start", x.startSwing(0, 1000), Check.SWINGING);
            x.stopMotor(0);
            x.advance(9);
            Check.due("up to its last turn", x.startSwing(0, 1000), Check.SWINGING);
            x.advance(1);
            Check.due("when it has stopped", x.startSwing(0, 1000), 20);
        });
        Doc.says("promise 37", "BUSY if it has scheduled strokes", () -> {
            BellController x = Check.quickBells(2);
            x.scheduleStroke(0, 100000);
            x.scheduleStroke(1, 5);
            Check.due("a stroke far away", x.startSwing(0, 5), Check.BUSY);
            Check.due("cancelStroke", x.cancelStroke(0, 100000), 1);
            Check.due("without it, beside another bell's", x.startSwing(0, 5), 10);
            x.advance(4);
            Check.due("a tick before its stroke", x.startSwing(1, 5), Check.BUSY);
            x.advance(1);
            Check.due("at its stroke", x.startSwing(1, 5), 15);
        });
    }

    /** Three bells of half period 10, the first two of which come to 1980 together at full amplitude. */
    private static BellController strong(int weight) {
        BellController x = new BellController();
        x.addBell(1, 0, 99, 10);
        x.addBell(1, 0, 99, 10);
        x.addBell(1, 0, weight, 10);
        x.startSwing(0, 1000);
        x.startSwing(1, 1000);
        return x;
    }

    private static void promise37TooStrong() {
        Doc.says("section 4", "The shake limit is 2,000 at first", () -> {
            Check.due("setShakeLimit(0)", new BellController().setShakeLimit(0), 2000);
            Check.due("a shake of 2001", strong(7).startSwing(2, 300), Check.TOO_STRONG);
            Check.due("a shake of 2000", strong(4).startSwing(2, 500), 10);
        });
        Doc.says("promise 37", "TOO_STRONG if then, at some tick from the current time to 600 ticks later, "
                + "the absolute value of the shake would be greater than the shake limit", () -> {
            // side -1 at the first turn: 99 * 80 / 100 is 79 by its absolute value
            BellController x = Towers.bell(1, 0, 99, 60);
            x.setShakeLimit(78);
            Check.due("a shake of -79", x.startSwing(0, 80), Check.TOO_STRONG);
            x.setShakeLimit(79);
            Check.due("a shake of -79", x.startSwing(0, 80), 60);
            // the tenth turn, at 600, comes to 688, the eleventh would come to 746
            BellController y = Towers.bell(1, 0, 99, 60);
            y.setShakeLimit(680);
            Check.due("at 600 ticks", y.startSwing(0, 1000), Check.TOO_STRONG);
            y.setShakeLimit(681);
            Check.due("behind 600 ticks", y.startSwing(0, 1000), 60);
            presentShake();
            noShakeAtAll();
        });
    }

    /** The present tick counts too, even if all later ones are calmer. */
    private static void presentShake() {
        BellController x = Towers.bell(1, 0, 99, 10);
        x.addBell(1, 0, 1, 10);
        x.startSwing(0, 100);
        x.advance(20);
        x.stopMotor(0);
        Check.due("shake(0)", x.shake(0), 100099);
        Check.due("greatestShake(600)", x.greatestShake(600), 99);
        x.setShakeLimit(98);
        Check.due("at the present tick", x.startSwing(1, 1), Check.TOO_STRONG);
        x.advance(1);
        Check.due("a tick later", x.startSwing(1, 1), 31);
    }

    private static void noShakeAtAll() {
        BellController x = Towers.bell(1, 0, 1, 10);
        x.setShakeLimit(0);
        Check.due("a force of 1", x.startSwing(0, 100), Check.TOO_STRONG);
        Check.due("a force below 1", x.startSwing(0, 99), 10);
    }

    private static void promise38() {
        Doc.says("promise 38", "The bell swings on until its amplitude is 0 at a turn", () -> {
            BellController x = Towers.fading(3);
            x.advance(10);
            Check.due("amplitude(0)", x.amplitude(0), 1);
            x.advance(9);
            Check.due("amplitude(0)", x.amplitude(0), 1);
            Check.due("nextTurn(0)", x.nextTurn(0), 320);
            x.advance(1);
            Check.due("amplitude(0)", x.amplitude(0), Check.NONE);
            BellController y = swinging(10, 5);
            Check.due("at once, with an amplitude of 0", y.stopMotor(0), 0);
            Check.due("it swings up to its turn", y.nextTurn(0), 10);
        });
        Doc.says("promise 38", "NO_SUCH if the bell does not exist", () -> Edges.bells("stopMotor", (x, value) -> {
            x.startSwing(value, 1);
            return x.stopMotor(value);
        }));
        Doc.says("promise 38", "NONE if it does not swing", () -> {
            BellController x = Check.quickBells(2);
            x.startSwing(1, 1);
            Check.due("another bell swings", x.stopMotor(0), Check.NONE);
            Check.due("stopMotor(1)", x.stopMotor(1), 0);
            Check.due("stopMotor(1) again", x.stopMotor(1), 0);
            x.advance(10);
            Check.due("when it has stopped", x.stopMotor(1), Check.NONE);
        });
    }

    private static void promise39() {
        Doc.says("promise 39", "Returns 1 if the clapper was held before, otherwise 0", () -> {
            BellController x = Check.quickBells(2);
            Check.due("free, to be free", x.holdClapper(0, false), 0);
            Check.due("free, to be held", x.holdClapper(0, true), 0);
            Check.due("held, to be held", x.holdClapper(0, true), 1);
            Check.due("another bell's", x.holdClapper(1, false), 0);
            Check.due("held, to be free", x.holdClapper(0, false), 1);
            Check.due("free again", x.holdClapper(0, true), 0);
            x.startSwing(0, 1);
            x.stopMotor(0);
            x.advance(10);
            Check.due("held beyond its swinging", x.holdClapper(0, true), 1);
        });
        Doc.says("promise 39", "- `held`: whether the clapper is held from now on", () -> {
            BellController x = swinging(10, 400);
            x.advance(59);
            x.holdClapper(0, true);
            Check.due("held from the turn on", x.advance(1), 0);
            x.advance(9);
            x.holdClapper(0, false);
            Check.due("free from the turn on", x.advance(1), 1);
        });
        Doc.says("promise 39", "NO_SUCH if the bell does not exist", () -> {
            Edges.bells("holdClapper", (x, value) -> x.holdClapper(value, true));
            Edges.bells("holdClapper", (x, value) -> x.holdClapper(value, false));
        });
    }

    private static void promise40() {
        Doc.says("promise 40", "NONE if it does not swing", () -> {
            BellController x = Check.quickBells(2);
            x.startSwing(1, 1);
            Check.due("amplitude(0)", x.amplitude(0), Check.NONE);
            Check.due("amplitude(1)", x.amplitude(1), 0);
            x.stopMotor(1);
            x.advance(10);
            Check.due("when it has stopped", x.amplitude(1), Check.NONE);
        });
        Doc.says("promise 40", "NO_SUCH if the bell does not exist", () -> Edges.bells("amplitude", (x, value) -> {
            x.startSwing(value, 1);
            return x.amplitude(value);
        }));
    }

    private static void promise41() {
        Doc.says("promise 41", "Returns the time, greater than the current time", () -> {
            BellController x = swinging(10, 1);
            for (int time = 0; time < 40; time++) {
                Check.due("nextTurn(0)", x.nextTurn(0), (time / 10 + 1) * 10);
                x.advance(1);
            }
            Towers.at(x, 99999);
            Check.due("nextTurn(0)", x.nextTurn(0), 100000);
            x.advance(1);
            Check.due("behind the end of time", x.nextTurn(0), 100010);
        });
        Doc.says("promise 41", "NONE if it does not swing", () -> {
            BellController x = Check.quickBells(2);
            x.startSwing(1, 1);
            Check.due("nextTurn(0)", x.nextTurn(0), Check.NONE);
            x.stopMotor(1);
            x.advance(9);
            Check.due("nextTurn(1)", x.nextTurn(1), 10);
            x.advance(1);
            Check.due("when it has stopped", x.nextTurn(1), Check.NONE);
        });
        Doc.says("promise 41", "NO_SUCH if the bell does not exist", () -> Edges.bells("nextTurn", (x, value) -> {
            x.startSwing(value, 1);
            return x.nextTurn(value);
        }));
    }

    private static void promise42() {
        Doc.says("promise 42", "Returns the amplitude that a bell will have after a number of turns", () -> {
            BellController x = swinging(10, 1000);
            x.advance(15);
            int[] amplitudes = new int[20];
            for (int turns = 0; turns < 20; turns++) {
                amplitudes[turns] = x.amplitudeAfter(0, turns);
            }
            for (int turns = 0; turns < 20; turns++) {
                Check.due("after " + turns + " turns", amplitudes[turns], x.amplitude(0));
                x.advance(10);
            }
        });
        Doc.says("promise 42", "- `turns`: number of turns, 0 to 200", () -> {
            Edges.range("turns", 0, 200, Check.BAD_VALUE, () -> swinging(10, 1000),
                    (x, value) -> x.amplitudeAfter(0, value));
            Check.due("amplitudeAfter(0, 0)", swinging(10, 1000).amplitudeAfter(0, 0), 0);
            Check.due("amplitudeAfter(0, 1)", swinging(10, 1000).amplitudeAfter(0, 1), 80);
        });
        Doc.says("promise 42", "Returns the amplitude, 0 if the bell will have stopped", () -> {
            BellController x = Towers.fading(3);
            Check.due("amplitudeAfter(0, 0)", x.amplitudeAfter(0, 0), 3);
            Check.due("amplitudeAfter(0, 1)", x.amplitudeAfter(0, 1), 1);
            Check.due("amplitudeAfter(0, 2)", x.amplitudeAfter(0, 2), 0);
            Check.due("amplitudeAfter(0, 3)", x.amplitudeAfter(0, 3), 0);
            Check.due("amplitudeAfter(0, 200)", x.amplitudeAfter(0, 200), 0);
        });
        Doc.says("promise 42", "NONE if it does not swing now", () -> {
            BellController x = Check.quickBells(1);
            Check.due("amplitudeAfter(0, 0)", x.amplitudeAfter(0, 0), Check.NONE);
            Check.due("amplitudeAfter(0, 200)", x.amplitudeAfter(0, 200), Check.NONE);
            x.startSwing(0, 1);
            x.stopMotor(0);
            x.advance(9);
            Check.due("up to its last turn", x.amplitudeAfter(0, 1), 0);
            x.advance(1);
            Check.due("when it has stopped", x.amplitudeAfter(0, 1), Check.NONE);
        });
        Doc.says("promise 42", "NO_SUCH if the bell does not exist", () -> Edges.bells("amplitudeAfter", (x, value) -> {
            x.startSwing(value, 1);
            return x.amplitudeAfter(value, 200);
        }));
        Doc.says("promise 42", "BAD_VALUE if turns is out of range", () -> {
            for (int turns : new int[] {-1, 201, Integer.MIN_VALUE, Integer.MAX_VALUE}) {
                Check.due("while it swings", swinging(10, 5).amplitudeAfter(0, turns), Check.BAD_VALUE);
                // the document orders the errors alone, and NONE is none
                Check.due("while it does not", Check.quickBells(1).amplitudeAfter(0, turns), Check.BAD_VALUE);
            }
        });
    }

    private static void promise43() {
        Doc.says("promise 43", "Returns the number of turns until the amplitude of a bell will be at least 400 at a turn "
                + "for the first time from now on", () -> {
            Check.due("400 at the sixth turn", swinging(10, 400).turnsUntilLoud(0), 6);
            Check.due("never more than 399", swinging(10, 399).turnsUntilLoud(0), Check.NONE);
            Check.due("414 becomes 400", Towers.fading(414).turnsUntilLoud(0), 1);
            Check.due("413 becomes 399", Towers.fading(413).turnsUntilLoud(0), Check.NONE);
            BellController x = swinging(10, 400);
            x.holdClapper(0, true);
            Check.due("with a held clapper", x.turnsUntilLoud(0), 6);
        });
        Doc.says("promise 43", "Returns the number of turns, 1 to 200", () -> {
            BellController x = swinging(10, 1000);
            for (int turn = 0; turn < 6; turn++) {
                Check.due("behind " + turn + " turns", x.turnsUntilLoud(0), 6 - turn);
                x.advance(10);
            }
            Check.due("behind a loud turn", x.turnsUntilLoud(0), 1);
        });
        Doc.says("promise 43", "NONE if it does not happen in the next 200 turns or the bell does not swing", () -> {
            BellController x = Check.quickBells(1);
            Check.due("before it swings", x.turnsUntilLoud(0), Check.NONE);
            x.startSwing(0, 1000);
            x.advance(50);
            x.stopMotor(0);
            Check.due("with the motor off at 371", x.turnsUntilLoud(0), Check.NONE);
            x.advance(2000);
            Check.due("when it has stopped", x.turnsUntilLoud(0), Check.NONE);
        });
        Doc.says("promise 43", "NO_SUCH if the bell does not exist", () -> Edges.bells("turnsUntilLoud", (x, value) -> {
            x.startSwing(value, 400);
            return x.turnsUntilLoud(value);
        }));
    }
}
