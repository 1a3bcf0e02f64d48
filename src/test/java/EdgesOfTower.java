/** Section 4, as far as it tells of forces and shakes, and promises 44 to 48: a test for each boundary. */
final class EdgesOfTower {
    private EdgesOfTower() { }

    static void all() {
        section4Forces();
        section4Shakes();
        promise44();
        promise45();
        promise46();
        promise47();
        promise48();
        promise48Waits();
        promise48Refusals();
    }

    /** A bell that has come to its target amplitude and to a turn, behind which its side is +1. */
    private static BellController steady(int weight, int halfPeriod, int amplitude) {
        BellController x = Towers.bell(1, 0, weight, halfPeriod);
        x.setShakeLimit(100000);
        x.startSwing(0, amplitude);
        x.advance(30 * halfPeriod);
        Check.due("amplitude(0)", x.amplitude(0), amplitude);
        return x;
    }

    private static void section4Forces() {
        Doc.says("section 4", "The force of a swinging bell at a time that is u ticks after its latest turn (or its "
                + "start), with u less than h, is side * weight * amplitude * (h - 2 * u) / (100 * h), where the "
                + "division truncates towards 0", () -> {
            int[][] bells = {{99, 60, 1000}, {99, 59, 999}, {1, 10, 1000}, {1, 11, 99}, {53, 13, 77}, {1, 60, 1}};
            for (int[] bell : bells) {
                BellController x = steady(bell[0], bell[1], bell[2]);
                for (int u = 0; u < bell[1]; u++) {
                    double exact = bell[0] * bell[2] * (bell[1] - 2 * u) / (100.0 * bell[1]);
                    int due = exact < 0 ? (int) Math.ceil(exact - 1e-9) : (int) Math.floor(exact + 1e-9);
                    Check.due("side +1, u is " + u, x.force(0), 100000 + due);
                    Check.due("side -1, u is " + u, x.shake(bell[1]), 100000 - due);
                    x.advance(1);
                }
            }
            BellController x = Towers.bell(1, 0, 99, 10);
            x.startSwing(0, 1000);
            Check.due("from its start on", x.force(0), 100000);
            x.advance(9);
            Check.due("up to its first turn", x.force(0), 100000);
        });
        Doc.says("section 4", "At the time of a turn, the values after the turn are used, and u is 0", () -> {
            BellController x = Towers.bell(1, 0, 50, 20);
            x.startSwing(0, 500);
            Check.due("foreseen", x.shake(20), 100000 - 40);
            x.advance(20);
            Check.due("force(0)", x.force(0), 100000 - 40);
            Check.due("foreseen", x.shake(20), 100000 + 78);
            x.advance(20);
            Check.due("force(0)", x.force(0), 100000 + 78);
        });
        Doc.says("section 4", "The force of a bell that does not swing is 0", () -> {
            BellController x = Check.quickBells(2);
            Check.due("force(0)", x.force(0), 100000);
            x.startSwing(1, 1000);
            x.advance(100);
            Check.due("beside one that swings", x.force(0), 100000);
            x.stopMotor(1);
            x.advance(2000);
            Check.due("when it has stopped", x.force(1), 100000);
        });
    }

    private static void section4Shakes() {
        Doc.says("section 4", "The shake of the tower at a time is the sum of the forces of all bells", () -> {
            Check.due("without bells", new BellController().shake(0), 100000);
            BellController x = new BellController();
            x.setShakeLimit(100000);
            for (int bell = 0; bell < 12; bell++) {
                x.addBell(1, 0, 99, 10);
                x.startSwing(bell, 1000);
            }
            x.advance(300);
            Check.due("twelve of the strongest", x.shake(0), 100000 + 12 * 990);
            Check.due("at the other side", x.shake(10), 100000 - 12 * 990);
            // each force is truncated by itself: 12 * (99 * 10 / 1000) is 0, though 1188 / 100 is 11
            BellController y = Check.quickBells(12);
            for (int bell = 0; bell < 12; bell++) {
                y.startSwing(bell, 99);
            }
            y.advance(300);
            Check.due("twelve of less than 1", y.shake(0), 100000);
            BellController z = Check.quickBells(2);
            z.startSwing(0, 100);
            z.advance(10);
            z.startSwing(1, 100);
            z.advance(20);
            Check.due("force(0)", z.force(0), 99999);
            Check.due("force(1)", z.force(1), 100001);
            Check.due("against one another", z.shake(0), 100000);
        });
        Doc.says("section 4", "Forces and shakes in the future are computed as if all motors and targets stayed as they "
                + "are", () -> {
            BellController x = steady(10, 10, 1000);
            Check.due("with the motor on", x.shake(600), 100100);
            x.stopMotor(0);
            Check.due("with the motor off", x.shake(10), 100000 - 96);
            Check.due("with the motor off", x.shake(20), 100000 + 93);
            Check.due("with the motor off", x.shake(600), 100000 + 10 * x.amplitudeAfter(0, 60) / 100);
            BellController y = Towers.fading(3);
            Check.due("it will have stopped", y.shake(600), 100000);
            BellController z = Towers.bell(1, 0, 99, 10);
            z.startSwing(0, 100);
            Check.due("the target holds", z.greatestShake(600), 99);
        });
    }

    private static void promise44() {
        Doc.says("promise 44", "Returns the force of a bell now, plus 100,000", () -> {
            BellController x = steady(99, 10, 1000);
            Check.due("the greatest", x.force(0), 100990);
            x.advance(5);
            Check.due("none in the middle", x.force(0), 100000);
            x.advance(4);
            Check.due("u is 9", x.force(0), 100000 - 792);
            x.advance(1);
            Check.due("the least", x.force(0), 99010);
            Check.due("of a bell that never swung", Check.quickBells(1).force(0), 100000);
        });
        Doc.says("promise 44", "Returns the force plus 100,000", () -> {
            BellController x = steady(1, 10, 100);
            Check.due("1", x.force(0), 100001);
            x.advance(10);
            Check.due("-1", x.force(0), 99999);
        });
        Doc.says("promise 44", "NO_SUCH if the bell does not exist", () -> Edges.bells("force", BellController::force));
    }

    private static void promise45() {
        Doc.says("promise 45", "- `ticks`: number of ticks from now, 0 to 600", () -> {
            Edges.range("ticks", 0, 600, Check.BAD_VALUE, () -> Check.quickBells(1), BellController::shake);
            Edges.range("at the end of time", 0, 600, Check.BAD_VALUE, () -> Towers.at(Check.quickBells(1), 100000),
                    BellController::shake);
            BellController x = steady(10, 60, 1000);
            Check.due("shake(0)", x.shake(0), 100100);
            Check.due("shake(1)", x.shake(1), 100096);
            Check.due("shake(599)", x.shake(599), 100096);
            Check.due("shake(600)", x.shake(600), 100100);
        });
        Doc.says("promise 45", "Returns the shake of the tower at a time, plus 100,000", () -> {
            BellController x = steady(10, 10, 1000);
            Check.due("shake(0)", x.shake(0), 100100);
            Check.due("shake(10)", x.shake(10), 99900);
        });
        Doc.says("promise 45", "Returns the shake plus 100,000", () -> Check.due("without a shake",
                Check.quickBells(12).shake(600), 100000));
        Doc.says("promise 45", "BAD_VALUE if ticks is out of range", () -> {
            for (int ticks : new int[] {-1, 601, Integer.MIN_VALUE, Integer.MAX_VALUE}) {
                Check.due("without bells", new BellController().shake(ticks), Check.BAD_VALUE);
            }
        });
    }

    /** A bell whose shakes grow from turn to turn, at 60, 120 and so on. */
    private static BellController growing() {
        BellController x = Towers.bell(1, 0, 99, 60);
        x.startSwing(0, 1000);
        return x;
    }

    private static void promise46() {
        Doc.says("promise 46", "Returns the greatest absolute value of the shake of the tower from now on", () -> {
            BellController x = growing();
            Check.due("the first turn, to the side -1", x.greatestShake(119), 79);
            Check.due("the second, to the side +1", x.greatestShake(120), 154);
            x.advance(60);
            Check.due("no more than what was", x.greatestShake(59), 79);
            x.advance(1);
            Check.due("not what is over", x.greatestShake(0), 76);
        });
        Doc.says("promise 46", "- `ticks`: number of ticks, 0 to 600", () -> {
            Edges.range("ticks", 0, 600, Check.BAD_VALUE, () -> Check.quickBells(1), BellController::greatestShake);
            Edges.range("at the end of time", 0, 600, Check.BAD_VALUE, () -> Towers.at(Check.quickBells(1), 100000),
                    BellController::greatestShake);
        });
        Doc.says("promise 46", "the ticks 0 to this number from now are examined", () -> {
            BellController x = growing();
            Check.due("tick 0 alone", x.greatestShake(0), 0);
            Check.due("up to 59", x.greatestShake(59), 0);
            Check.due("up to 60", x.greatestShake(60), 79);
            // the turns at 540 and 600 come to 628 and 688
            Check.due("up to 599", x.greatestShake(599), 99 * 628 / 100);
            Check.due("up to 600", x.greatestShake(600), 99 * 688 / 100);
            x.advance(600);
            Check.due("tick 0 alone", x.greatestShake(0), 99 * 688 / 100);
        });
        Doc.says("promise 46", "Returns the greatest absolute value", () -> Check.due("without a shake",
                Check.quickBells(12).greatestShake(600), 0));
        Doc.says("promise 46", "BAD_VALUE if ticks is out of range", () -> {
            for (int ticks : new int[] {-1, 601, Integer.MIN_VALUE, Integer.MAX_VALUE}) {
                Check.due("without bells", new BellController().greatestShake(ticks), Check.BAD_VALUE);
            }
        });
    }

    private static void promise47() {
        Doc.says("promise 47", "- `limit`: new limit, 0 to 100,000", () -> Edges.range("limit", 0, 100000,
                Check.BAD_VALUE, BellController::new, BellController::setShakeLimit));
        Doc.says("promise 47", "BAD_VALUE if it is out of range", () -> {
            BellController x = new BellController();
            Check.due("setShakeLimit(-1)", x.setShakeLimit(-1), Check.BAD_VALUE);
            Check.due("setShakeLimit(0)", x.setShakeLimit(0), 2000);
            Check.due("setShakeLimit(100001)", x.setShakeLimit(100001), Check.BAD_VALUE);
            Check.due("setShakeLimit(100000)", x.setShakeLimit(100000), 0);
            Check.due("setShakeLimit(1)", x.setShakeLimit(1), 100000);
        });
    }

    private static void promise48() {
        Doc.says("promise 48", "Finds out how long to wait before a bell is started, so that the tower is shaken as "
                + "little as possible: the number of ticks w from 0 to 2 * half period - 1 for which the greatest "
                + "absolute value of the shake at the ticks w to w + 600 from now would be smallest if the bell were "
                + "started w ticks from now", () -> {
            for (int half : new int[] {10, 60}) {
                BellController x = unlike(half);
                for (int tick = 0; tick < half; tick += 7) {
                    Check.due("calmestWait(1, 1000)", x.calmestWait(1, 1000), triedWait(half, tick));
                    x.advance(7);
                }
                Check.due("the longest wait", nearTurn(half, 2 * half - 2).calmestWait(1, 1), 2 * half - 1);
            }
            // the tick w + 600 counts, and the tick behind it does not
            Check.due("a strong shake at 601", farTurn(251).calmestWait(2, 1), 0);
            Check.due("a strong shake at 602", farTurn(252).calmestWait(2, 1), 1);
            Check.due("behind the turn of this tick", nearTurn(10, 0).calmestWait(1, 1), 1);
            Check.due("no wait is long enough", nearTurn(10, 20).calmestWait(1, 1), 0);
            Check.due("long enough for one turn of two", nearTurn(60, 0).calmestWait(1, 1), 61);
        });
        Doc.says("promise 48", "among equal values the lowest w", () -> {
            Check.due("alone", Towers.bell(1, 0, 99, 60).calmestWait(0, 1000), 0);
            Check.due("without any force", Check.quickBells(1).calmestWait(0, 1), 0);
            BellController x = steady(50, 10, 1000);
            x.addBell(1, 0, 1, 60);
            Check.due("where the other bell alone decides", x.calmestWait(1, 1), 0);
        });
        Doc.says("promise 48", "The shake limit does not matter", () -> {
            BellController x = steady(50, 10, 1000);
            x.addBell(1, 0, 50, 10);
            int wait = x.calmestWait(1, 1000);
            x.setShakeLimit(0);
            Check.due("calmestWait(1, 1000)", x.calmestWait(1, 1000), wait);
            Check.due("startSwing(1, 1000)", x.startSwing(1, 1000), Check.TOO_STRONG);
        });
    }

    /** Two bells that differ, the first of which is at its greatest amplitude and at a turn. */
    private static BellController unlike(int half) {
        BellController x = steady(30, 35, 1000);
        x.addBell(1, 0, 50, half);
        return x;
    }

    /** The calmest wait of the second bell at a tick, by trying each: wait, start, and look. */
    private static int triedWait(int half, int tick) {
        int least = Integer.MAX_VALUE;
        int calmest = -1;
        for (int wait = 0; wait < 2 * half; wait++) {
            BellController x = unlike(half);
            x.advance(tick);
            x.advance(wait);
            x.startSwing(1, 1000);
            int greatest = x.greatestShake(600);
            if (greatest < least) {
                least = greatest;
                calmest = wait;
            }
        }
        return calmest;
    }

    /** A bell that fades from turn to turn, one of them so many ticks ahead, and one that makes no force. */
    private static BellController nearTurn(int half, int ahead) {
        BellController x = Towers.bell(1, 0, 99, 60);
        x.addBell(1, 0, 1, half);
        x.startSwing(0, 1000);
        x.advance(1980);
        Check.due("stopMotor(0)", x.stopMotor(0), 1000);
        x.advance((120 - ahead) % 60);
        return x;
    }

    /**
     * A bell that fades from a shake of 760 at this tick, and one that was started at a time at most 60 ticks ago and
     * grows beyond that with its eleventh turn; the third bell makes no force.
     */
    private static BellController farTurn(int start) {
        BellController x = Towers.bell(1, 0, 76, 10);
        x.addBell(1, 0, 99, 60);
        x.addBell(1, 0, 1, 10);
        x.startSwing(0, 1000);
        x.advance(start);
        x.startSwing(1, 1000);
        x.advance(310 - start);
        Check.due("stopMotor(0)", x.stopMotor(0), 1000);
        Check.due("shake(0)", x.shake(0), 100000 - 760);
        return x;
    }

    private static void promise48Waits() {
        Doc.says("promise 48", "Returns w", () -> {
            // the wait leads just behind the shake of the present tick
            BellController x = Check.quickBells(2);
            x.startSwing(0, 100);
            x.advance(20);
            x.stopMotor(0);
            Check.due("shake(0)", x.shake(0), 100001);
            Check.due("shake(1)", x.shake(1), 100000);
            Check.due("calmestWait(1, 1)", x.calmestWait(1, 1), 1);
            x.advance(1);
            Check.due("calmestWait(1, 1)", x.calmestWait(1, 1), 0);
        });
        Doc.says("promise 48", "- `target`: target amplitude, 1 to 1000", () -> Edges.range("target", 1, 1000,
                Check.BAD_VALUE, () -> Check.quickBells(1), (x, value) -> x.calmestWait(0, value)));
    }

    private static void promise48Refusals() {
        Doc.says("promise 48", "NO_SUCH if the bell does not exist", () -> Edges.bells("calmestWait",
                (x, value) -> x.calmestWait(value, 1000)));
        Doc.says("promise 48", "BAD_VALUE if the target is out of range", () -> {
            for (int target : new int[] {0, -1, 1001, Integer.MIN_VALUE, Integer.MAX_VALUE}) {
                Check.due("calmestWait", Check.quickBells(1).calmestWait(0, target), Check.BAD_VALUE);
            }
        });
        Doc.says("promise 48", "SWINGING if it swings already", () -> {
            BellController x = Check.quickBells(2);
            x.startSwing(0, 1);
            Check.due("calmestWait(0, 5)", x.calmestWait(0, 5), Check.SWINGING);
            Check.due("another bell", x.calmestWait(1, 5), 0);
            x.stopMotor(0);
            x.advance(9);
            Check.due("up to its last turn", x.calmestWait(0, 5), Check.SWINGING);
            x.advance(1);
            Check.due("when it has stopped", x.calmestWait(0, 5), 0);
            x.scheduleStroke(0, 100);
            Check.due("with a scheduled stroke", x.calmestWait(0, 5), 0);
        });
    }
}
