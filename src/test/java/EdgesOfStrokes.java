/** Section 2 and promises 13 to 20: a test for each sentence that names a boundary. */
final class EdgesOfStrokes {
    private EdgesOfStrokes() { }

    static void all() {
        section2Times();
        section2Hammers();
        section2Power();
        section2Limits();
        promise13();
        promise13Refusals();
        promise14();
        promise15();
        promise16();
        promise17();
        promise18();
        promise19();
        promise20();
        promise20Refusals();
    }

    private static void section2Times() {
        Doc.says("section 2", "A stroke of a bell at a time t is commanded at the time t minus the delay "
                + "that the bell has when the stroke is scheduled", () -> {
            Check.due("delay 1", Towers.bell(1, 0, 1, 10).scheduleStroke(0, 1), 0);
            Check.due("delay 50", Towers.bell(50, 0, 1, 10).scheduleStroke(0, 50), 0);
            Check.due("delay 50", Towers.bell(50, 0, 1, 10).scheduleStroke(0, 100000), 99950);
            BellController x = Towers.bell(10, 0, 1, 10);
            x.scheduleStroke(0, 100);
            x.calibrate(0, 50);
            Check.due("with the new delay", x.scheduleStroke(0, 200), 180);
            Check.due("with the old delay", x.commandTime(0), 90);
        });
        Doc.says("section 2", "A stroke can be scheduled if all of these conditions hold: "
                + "its command time is not less than the current time", () -> {
            Check.due("at 0", Towers.bell(10, 0, 1, 10).scheduleStroke(0, 9), Check.TOO_LATE);
            Check.due("at 0", Towers.bell(10, 0, 1, 10).scheduleStroke(0, 10), 0);
            BellController x = Towers.at(Towers.bell(10, 0, 1, 10), 777);
            Check.due("at 777", x.scheduleStroke(0, 786), Check.TOO_LATE);
            Check.due("at 777", x.scheduleStroke(0, 787), 777);
            Check.due("at its last time", Towers.at(Towers.bell(10, 0, 1, 10), 99990).scheduleStroke(0, 100000), 99990);
            Check.due("behind it", Towers.at(Towers.bell(10, 0, 1, 10), 99991).scheduleStroke(0, 100000), Check.TOO_LATE);
        });
        Doc.says("section 2", "t is at most 100,000", () -> {
            BellController x = Towers.bell(10, 0, 1, 10);
            Check.due("scheduleStroke(0, 100001)", x.scheduleStroke(0, 100001), Check.BAD_VALUE);
            Check.due("scheduleStroke(0, 100000)", x.scheduleStroke(0, 100000), 99990);
            x.cancelStroke(0, 100000);
            Check.load(x, 0, "a-a");
            Check.due("play up to 100001", x.play(0, 99601, 200), Check.BAD_VALUE);
            Check.due("play up to 100000", x.play(0, 99600, 200), 2);
            Check.due("commandTime(1)", x.commandTime(1), 99990);
        });
    }

    private static void section2Hammers() {
        Doc.says("section 2", "The hammer moves from its command up to, but not including, the time t", () -> {
            BellController x = Towers.bell(10, 30, 1, 10);
            x.scheduleStroke(0, 50);
            int[] ticks = {39, 40, 41, 48, 49, 50, 51, 79};
            int[] moving = {0, 1, 1, 1, 1, 0, 0, 0};
            for (int i = 0; i < ticks.length; i++) {
                Check.due("movingHammers(" + ticks[i] + ")", x.movingHammers(ticks[i]), moving[i]);
            }
        });
        Doc.says("section 2", "The hammer is occupied from its command up to, but not including, "
                + "the time t plus the recovery of the bell", () -> {
            for (int recovery : new int[] {0, 1, 20, 100}) {
                BellController x = Towers.bell(10, recovery, 1, 10);
                x.scheduleStroke(0, 500);
                Check.due("a tick too near behind", x.scheduleStroke(0, 509 + recovery), Check.CLASH);
                Check.due("right behind", x.scheduleStroke(0, 510 + recovery), 500 + recovery);
                Check.due("a tick too near before", x.scheduleStroke(0, 491 - recovery), Check.CLASH);
                Check.due("right before", x.scheduleStroke(0, 490 - recovery), 480 - recovery);
            }
        });
        Doc.says("section 2", "the hammer is not occupied by another stroke of the same bell (scheduled or "
                + "already sounded) at any tick at which it would be occupied", () -> {
            BellController x = new BellController();
            x.addBell(10, 100, 1, 10);
            x.addBell(10, 100, 1, 10);
            x.scheduleStroke(0, 10);
            Check.due("another bell", x.scheduleStroke(1, 10), 0);
            Check.due("a scheduled stroke", x.scheduleStroke(0, 119), Check.CLASH);
            x.advance(10);
            Check.due("a sounded stroke", x.scheduleStroke(0, 20), Check.CLASH);
            Check.due("a sounded stroke", x.scheduleStroke(0, 119), Check.CLASH);
            Check.due("behind it", x.scheduleStroke(0, 120), 110);
            Check.due("cancelStroke(0, 120)", x.cancelStroke(0, 120), 0);
            Check.due("a cancelled stroke", x.scheduleStroke(0, 121), 111);
            Towers.at(x, 109);
            Check.due("a sounded stroke", x.scheduleStroke(1, 119), Check.CLASH);
            Towers.at(x, 110);
            Check.due("its last tick is over", x.scheduleStroke(1, 120), 110);
        });
        Doc.says("section 2", "A scheduled stroke sounds when the current time reaches its time", () -> {
            BellController x = Towers.bell(10, 0, 1, 10);
            x.scheduleStroke(0, 50);
            Check.due("advance(49)", x.advance(49), 0);
            Check.due("recordLength()", x.recordLength(), 0);
            Check.due("advance(1)", x.advance(1), 1);
            Check.due("recordTime(0)", x.recordTime(0), 50);
        });
        Doc.says("section 2", "it is not scheduled any more then", () -> {
            BellController x = Towers.bell(10, 0, 1, 10);
            x.scheduleStroke(0, 50);
            x.advance(49);
            Check.due("scheduledCount()", x.scheduledCount(), 1);
            Check.due("nextStroke(0)", x.nextStroke(0), 50);
            x.advance(1);
            Check.due("scheduledCount()", x.scheduledCount(), 0);
            Check.due("nextStroke(0)", x.nextStroke(0), Check.NONE);
            Check.due("commandTime(0)", x.commandTime(0), Check.NONE);
            Check.due("cancelStroke(0, 50)", x.cancelStroke(0, 50), Check.NO_SUCH);
            Check.due("movingHammers(50)", x.movingHammers(50), 0);
        });
    }

    /** Three hammers that move together at the ticks 50 to 59; bells 3 and 4 have delays of 1 and 10. */
    private static BellController threeMoving() {
        BellController x = new BellController();
        for (int delay : new int[] {10, 20, 50, 1, 10}) {
            x.addBell(delay, 0, 1, 10);
        }
        x.scheduleStroke(0, 60);
        x.scheduleStroke(1, 65);
        x.scheduleStroke(2, 80);
        return x;
    }

    private static void section2Power() {
        Doc.says("section 2", "and at no tick more hammers would move than the power limit allows", () -> {
            Check.due("movingHammers(49)", threeMoving().movingHammers(49), 2);
            Check.due("movingHammers(50)", threeMoving().movingHammers(50), 3);
            Check.due("movingHammers(59)", threeMoving().movingHammers(59), 3);
            Check.due("movingHammers(60)", threeMoving().movingHammers(60), 2);
            Check.due("before", threeMoving().scheduleStroke(3, 50), 49);
            Check.due("the first tick", threeMoving().scheduleStroke(3, 51), Check.POWER);
            Check.due("the last tick", threeMoving().scheduleStroke(3, 60), Check.POWER);
            Check.due("behind", threeMoving().scheduleStroke(3, 61), 60);
            Check.due("up to the first tick", threeMoving().scheduleStroke(4, 50), 40);
            Check.due("the first tick alone", threeMoving().scheduleStroke(4, 51), Check.POWER);
            Check.due("the last tick alone", threeMoving().scheduleStroke(4, 69), Check.POWER);
            Check.due("from behind the last tick", threeMoving().scheduleStroke(4, 70), 60);
        });
        Doc.says("section 2", "The power limit is the largest number of hammers that may move at the same tick", () -> {
            for (int limit = 1; limit <= 12; limit++) {
                BellController x = Check.quickBells(12);
                x.setPowerLimit(limit);
                for (int bell = 0; bell < 12; bell++) {
                    int due = bell < limit ? 6 : Check.POWER;
                    Check.due("with a limit of " + limit, x.scheduleStroke(bell, 7), due);
                }
                Check.due("movingHammers(6)", x.movingHammers(6), limit);
            }
        });
        Doc.says("section 2", "it is 3 at first", () -> {
            BellController x = Check.quickBells(4);
            for (int bell = 0; bell < 3; bell++) {
                Check.due("scheduleStroke", x.scheduleStroke(bell, 7), 6);
            }
            Check.due("a fourth hammer", x.scheduleStroke(3, 7), Check.POWER);
            Check.due("setPowerLimit(4)", x.setPowerLimit(4), 3);
            Check.due("a fourth hammer", x.scheduleStroke(3, 7), 6);
        });
    }

    private static void section2Limits() {
        Doc.says("section 2", "At most 300 strokes are scheduled at the same time", () -> {
            BellController x = Towers.filled(2, 299);
            Check.due("the 300th stroke", x.scheduleStroke(1, 10), 9);
            Check.due("scheduledCount()", x.scheduledCount(), 300);
            Check.due("a 301st stroke", x.scheduleStroke(1, 11), Check.FULL);
            x.advance(9);
            Check.due("a 301st stroke", x.scheduleStroke(1, 11), Check.FULL);
            x.advance(1);
            Check.due("when two have sounded", x.scheduleStroke(1, 11), 10);
            Check.due("when two have sounded", x.scheduleStroke(1, 12), 11);
            Check.due("a 301st stroke", x.scheduleStroke(1, 13), Check.FULL);
        });
    }

    private static void promise13() {
        Doc.says("promise 13", "- `time`: time of the stroke, 0 to 100,000", () -> {
            Check.due("time of -1", Check.quickBells(1).scheduleStroke(0, -1), Check.BAD_VALUE);
            Check.due("time of 0: allowed, but late", Check.quickBells(1).scheduleStroke(0, 0), Check.TOO_LATE);
            Check.due("time of 1", Check.quickBells(1).scheduleStroke(0, 1), 0);
            Check.due("time of 99999", Check.quickBells(1).scheduleStroke(0, 99999), 99998);
            Check.due("time of 100000", Check.quickBells(1).scheduleStroke(0, 100000), 99999);
            Check.due("time of 100001", Check.quickBells(1).scheduleStroke(0, 100001), Check.BAD_VALUE);
        });
        Doc.says("promise 13", "NO_SUCH if the bell does not exist", () -> Edges.bells("scheduleStroke",
                (x, value) -> x.scheduleStroke(value, 100000)));
        Doc.says("promise 13", "BAD_VALUE if the time is out of range", () -> {
            BellController x = Towers.bell(50, 100, 1, 10);
            for (int time : new int[] {-1, 100001, 100050, Integer.MIN_VALUE, Integer.MIN_VALUE + 49,
                Integer.MAX_VALUE, Integer.MAX_VALUE - 100}) {
                Check.due("scheduleStroke(0, " + time + ")", x.scheduleStroke(0, time), Check.BAD_VALUE);
            }
            Check.due("scheduledCount()", x.scheduledCount(), 0);
        });
        Doc.says("promise 13", "SWINGING if the bell swings now", () -> {
            BellController x = Check.quickBells(2);
            x.startSwing(0, 1);
            Check.due("right behind its start", x.scheduleStroke(0, 500), Check.SWINGING);
            Check.due("another bell", x.scheduleStroke(1, 500), 499);
            x.stopMotor(0);
            Check.due("with its motor off", x.scheduleStroke(0, 500), Check.SWINGING);
            x.advance(9);
            Check.due("up to its last turn", x.scheduleStroke(0, 500), Check.SWINGING);
            x.advance(1);
            Check.due("when it has stopped", x.scheduleStroke(0, 500), 499);
        });
        Doc.says("promise 13", "TOO_LATE if the command time is less than the current time", () -> {
            BellController x = Towers.at(Towers.bell(50, 0, 1, 10), 100);
            for (int time : new int[] {0, 1, 99, 100, 101, 149}) {
                Check.due("scheduleStroke(0, " + time + ")", x.scheduleStroke(0, time), Check.TOO_LATE);
            }
            Check.due("scheduleStroke(0, 150)", x.scheduleStroke(0, 150), 100);
        });
    }

    private static void promise13Refusals() {
        Doc.says("promise 13", "FULL if 300 strokes are scheduled", () -> {
            BellController x = Towers.filled(2, 300);
            Check.due("another bell", x.scheduleStroke(1, 5), Check.FULL);
            Check.due("the same bell", x.scheduleStroke(0, 1000), Check.FULL);
            Check.due("scheduledCount()", x.scheduledCount(), 300);
            Check.due("cancelStroke(0, 309)", x.cancelStroke(0, 309), 299);
            Check.due("another bell", x.scheduleStroke(1, 5), 4);
            Check.due("another bell", x.scheduleStroke(1, 6), Check.FULL);
        });
        Doc.says("promise 13", "CLASH if the hammer would be occupied", () -> {
            BellController x = Towers.bell(10, 20, 1, 10);
            x.scheduleStroke(0, 100);
            for (int time : new int[] {71, 99, 100, 101, 129}) {
                Check.due("scheduleStroke(0, " + time + ")", x.scheduleStroke(0, time), Check.CLASH);
            }
            Check.due("scheduleStroke(0, 70)", x.scheduleStroke(0, 70), 60);
            Check.due("scheduleStroke(0, 130)", x.scheduleStroke(0, 130), 120);
            Check.due("scheduledCount()", x.scheduledCount(), 3);
        });
        Doc.says("promise 13", "POWER if too many hammers would move", () -> {
            BellController x = Check.quickBells(3);
            x.setPowerLimit(2);
            x.scheduleStroke(0, 9);
            x.scheduleStroke(1, 9);
            Check.due("a third hammer", x.scheduleStroke(2, 9), Check.POWER);
            Check.due("the tick before", x.scheduleStroke(2, 8), 7);
            Check.due("the tick behind", x.scheduleStroke(2, 10), 9);
        });
    }

    private static void promise14() {
        Doc.says("promise 14", "A stroke whose command time is not greater than the current time "
                + "cannot be cancelled any more", () -> {
            BellController x = Towers.bell(10, 0, 1, 10);
            x.scheduleStroke(0, 10);
            x.scheduleStroke(0, 20);
            Check.due("commanded now", x.cancelStroke(0, 10), Check.TOO_LATE);
            x.advance(9);
            Check.due("commanded 9 ticks ago", x.cancelStroke(0, 10), Check.TOO_LATE);
            Check.due("commanded a tick later", x.cancelStroke(0, 20), 1);
        });
        Doc.says("promise 14", "NO_SUCH if the bell does not exist or no such stroke is scheduled", () -> {
            Edges.bells("cancelStroke", (x, value) -> {
                x.scheduleStroke(value, 100);
                return x.cancelStroke(value, 100);
            });
            BellController x = Towers.bell(10, 0, 1, 10);
            x.addBell(10, 0, 1, 10);
            for (int time : new int[] {Integer.MIN_VALUE, -1, 0, 10, 100, 100000, 100001, Integer.MAX_VALUE}) {
                Check.due("without strokes", x.cancelStroke(0, time), Check.NO_SUCH);
            }
            x.scheduleStroke(0, 100);
            for (int time : new int[] {Integer.MIN_VALUE, -1, 0, 90, 99, 101, 100000, 100001, Integer.MAX_VALUE}) {
                Check.due("at another time", x.cancelStroke(0, time), Check.NO_SUCH);
            }
            Check.due("of another bell", x.cancelStroke(1, 100), Check.NO_SUCH);
            Check.due("cancelStroke(0, 100)", x.cancelStroke(0, 100), 0);
            Check.due("when it is cancelled", x.cancelStroke(0, 100), Check.NO_SUCH);
            x.scheduleStroke(0, 100);
            Towers.at(x, 100);
            Check.due("when it has sounded", x.cancelStroke(0, 100), Check.NO_SUCH);
        });
        Doc.says("promise 14", "TOO_LATE if it cannot be cancelled any more", () -> {
            BellController x = Towers.bell(10, 0, 1, 10);
            x.scheduleStroke(0, 30);
            Towers.at(x, 20);
            Check.due("cancelStroke(0, 30)", x.cancelStroke(0, 30), Check.TOO_LATE);
            Towers.at(x, 29);
            Check.due("cancelStroke(0, 30)", x.cancelStroke(0, 30), Check.TOO_LATE);
            Check.due("it sounds", x.advance(1), 1);
        });
        Doc.says("promise 14", "Returns the new number of scheduled strokes", () -> {
            BellController x = Towers.filled(1, 300);
            Check.due("the last", x.cancelStroke(0, 309), 299);
            Check.due("the first", x.cancelStroke(0, 10), 298);
            Check.due("in the middle", x.cancelStroke(0, 150), 297);
            BellController one = Towers.filled(1, 1);
            Check.due("the only one", one.cancelStroke(0, 10), 0);
        });
    }

    private static void promise15() {
        Doc.says("promise 15", "Returns 0 to 300", () -> {
            Check.due("of a new object", new BellController().scheduledCount(), 0);
            BellController x = Towers.filled(2, 299);
            Check.due("scheduledCount()", x.scheduledCount(), 299);
            x.scheduleStroke(1, 10);
            Check.due("scheduledCount()", x.scheduledCount(), 300);
            x.scheduleStroke(1, 11);
            Check.due("scheduledCount()", x.scheduledCount(), 300);
            x.advance(308);
            Check.due("scheduledCount()", x.scheduledCount(), 0);
        });
    }

    private static void promise16() {
        Doc.says("promise 16", "NONE if no stroke of the bell is scheduled", () -> {
            BellController x = Check.quickBells(2);
            Check.due("nextStroke(0)", x.nextStroke(0), Check.NONE);
            x.scheduleStroke(1, 5);
            Check.due("another bell's", x.nextStroke(0), Check.NONE);
            Check.due("nextStroke(1)", x.nextStroke(1), 5);
            x.scheduleStroke(1, 3);
            Check.due("an earlier one", x.nextStroke(1), 3);
            x.advance(3);
            Check.due("the later one", x.nextStroke(1), 5);
            x.advance(2);
            Check.due("when all have sounded", x.nextStroke(1), Check.NONE);
        });
        Doc.says("promise 16", "NO_SUCH if the bell does not exist", () -> Edges.bells("nextStroke", (x, value) -> {
            x.scheduleStroke(value, 100000);
            return x.nextStroke(value);
        }));
    }

    /** Strokes commanded at 60 (bells 0, 1 and 2), 50 (bell 2) and 70 (bell 1), scheduled in another order. */
    private static BellController commands() {
        BellController x = new BellController();
        for (int delay : new int[] {9, 3, 5}) {
            x.addBell(delay, 0, 1, 10);
        }
        x.scheduleStroke(1, 63);
        x.scheduleStroke(2, 65);
        x.scheduleStroke(0, 69);
        x.scheduleStroke(1, 73);
        x.scheduleStroke(2, 55);
        return x;
    }

    private static void positions(int promise, Edges.Call call) {
        Doc.says("promise " + promise, "NONE if there are not so many", () -> {
            for (int value : new int[] {0, 1, 299, 300, Integer.MAX_VALUE}) {
                Check.due("without strokes", call.on(new BellController(), value), Check.NONE);
            }
            for (int value : new int[] {5, 6, 299, 300, Integer.MAX_VALUE}) {
                Check.due("of five strokes", call.on(commands(), value), Check.NONE);
            }
            Check.due("of 299 strokes", call.on(Towers.filled(1, 299), 299), Check.NONE);
            Check.holds("of 300 strokes", call.on(Towers.filled(1, 300), 299) >= 0);
            for (int value : new int[] {300, 301, Integer.MAX_VALUE - 1, Integer.MAX_VALUE}) {
                Check.due("of 300 strokes", call.on(Towers.filled(1, 300), value), Check.NONE);
            }
        });
        Doc.says("promise " + promise, "BAD_VALUE if the index is negative", () -> {
            for (int value : new int[] {-1, -2, -300, Integer.MIN_VALUE, Integer.MIN_VALUE + 1}) {
                Check.due("without strokes", call.on(new BellController(), value), Check.BAD_VALUE);
                Check.due("of 300 strokes", call.on(Towers.filled(1, 300), value), Check.BAD_VALUE);
            }
        });
    }

    private static void promise17() {
        Doc.says("promise 17", "Returns the command time of one of the scheduled strokes in the order "
                + "of their command times", () -> {
            int[] times = {50, 60, 60, 60, 70};
            for (int index = 0; index < 5; index++) {
                Check.due("commandTime(" + index + ")", commands().commandTime(index), times[index]);
            }
            BellController x = Towers.filled(1, 300);
            for (int index = 0; index < 300; index += 23) {
                Check.due("commandTime(" + index + ")", x.commandTime(index), 9 + index);
            }
            Check.due("commandTime(299)", x.commandTime(299), 308);
        });
        Doc.says("promise 17", "equal command times are ordered by bell", () -> {
            BellController x = Check.quickBells(12);
            x.setPowerLimit(12);
            for (int bell = 11; bell >= 0; bell--) {
                x.scheduleStroke((bell * 5 + 3) % 12, 8);
            }
            for (int index = 0; index < 12; index++) {
                Check.due("commandTime(" + index + ")", x.commandTime(index), 7);
                Check.due("commandBell(" + index + ")", x.commandBell(index), index);
            }
        });
        Doc.says("promise 17", "- `index`: position in this order, from 0", () -> {
            Check.due("commandTime(0)", commands().commandTime(0), 50);
            Check.due("commandTime(4)", commands().commandTime(4), 70);
        });
        positions(17, BellController::commandTime);
    }

    private static void promise18() {
        Doc.says("promise 18", "Returns the bell of one of the scheduled strokes in the order described "
                + "for commandTime", () -> {
            int[] bells = {2, 0, 1, 2, 1};
            for (int index = 0; index < 5; index++) {
                Check.due("commandBell(" + index + ")", commands().commandBell(index), bells[index]);
            }
        });
        Doc.says("promise 18", "- `index`: position in this order, from 0", () -> {
            Check.due("commandBell(0)", commands().commandBell(0), 2);
            Check.due("commandBell(4)", commands().commandBell(4), 1);
        });
        positions(18, BellController::commandBell);
    }

    private static void promise19() {
        Doc.says("promise 19", "- `time`: time of the tick, the current time to 100,000", () -> {
            Edges.range("at 0", 0, 100000, Check.BAD_VALUE, () -> Check.quickBells(1), BellController::movingHammers);
            Edges.range("at 777", 777, 100000, Check.BAD_VALUE, () -> Towers.at(Check.quickBells(1), 777),
                    BellController::movingHammers);
            Edges.range("at 100000", 100000, 100000, Check.BAD_VALUE, () -> Towers.at(Check.quickBells(1), 100000),
                    BellController::movingHammers);
        });
        Doc.says("promise 19", "BAD_VALUE if the time is out of range", () -> {
            BellController x = Towers.bell(10, 0, 1, 10);
            x.scheduleStroke(0, 20);
            Towers.at(x, 15);
            Check.due("a tick that is over", x.movingHammers(14), Check.BAD_VALUE);
            Check.due("the present tick", x.movingHammers(15), 1);
            Check.due("movingHammers(100001)", x.movingHammers(100001), Check.BAD_VALUE);
        });
        Doc.says("promise 19", "Returns the number of hammers that move at a tick, by the strokes that are "
                + "scheduled now", () -> {
            BellController x = Towers.bell(10, 0, 1, 10);
            x.scheduleStroke(0, 20);
            x.scheduleStroke(0, 40);
            Check.due("movingHammers(30)", x.movingHammers(30), 1);
            x.cancelStroke(0, 40);
            Check.due("a cancelled stroke", x.movingHammers(30), 0);
            Towers.at(x, 19);
            Check.due("movingHammers(19)", x.movingHammers(19), 1);
            Towers.at(x, 20);
            Check.due("a sounded stroke", x.movingHammers(20), 0);
        });
    }

    private static void promise20() {
        Doc.says("promise 20", "- `from`: smallest time of the stroke, 0 to 100,000", () -> {
            Edges.range("from", 0, 100000, Check.BAD_VALUE, () -> Check.quickBells(1),
                    (x, value) -> x.earliestStroke(0, value));
            Check.due("earliestStroke(0, 1)", Check.quickBells(1).earliestStroke(0, 1), 1);
            Check.due("earliestStroke(0, 100000)", Check.quickBells(1).earliestStroke(0, 100000), 100000);
        });
        Doc.says("promise 20", "Finds the earliest time at which a stroke of a bell could be scheduled", () -> {
            BellController x = Towers.bell(10, 20, 1, 10);
            Check.due("not too late", x.earliestStroke(0, 0), 10);
            x.scheduleStroke(0, 60);
            Check.due("right before another", x.earliestStroke(0, 30), 30);
            Check.due("right behind another", x.earliestStroke(0, 31), 90);
            Check.due("nothing is scheduled", x.scheduledCount(), 1);
            Towers.at(x, 60);
            Check.due("right behind a sounded one", x.earliestStroke(0, 0), 90);
            BellController y = threeMoving();
            Check.due("before the power is out", y.earliestStroke(4, 50), 50);
            Check.due("when there is power again", y.earliestStroke(4, 51), 70);
        });
        Doc.says("promise 20", "Returns the time, at most from + 2000 and at most 100,000", () -> {
            BellController x = Towers.at(Check.quickBells(1), 3000);
            Check.due("2001 ticks later", x.earliestStroke(0, 1000), Check.NONE);
            Check.due("2000 ticks later", x.earliestStroke(0, 1001), 3001);
            Check.due("1999 ticks later", x.earliestStroke(0, 1002), 3001);
            BellController y = Towers.bell(50, 0, 1, 10);
            y.scheduleStroke(0, 100000);
            Check.due("the last free time", y.earliestStroke(0, 99950), 99950);
            Check.due("no time up to 100000", y.earliestStroke(0, 99951), Check.NONE);
            y.cancelStroke(0, 100000);
            Check.due("the time 100000", y.earliestStroke(0, 100000), 100000);
        });
    }

    private static void promise20Refusals() {
        Doc.says("promise 20", "NONE if there is none", () -> {
            BellController x = Towers.at(Check.quickBells(2), 99999);
            Check.due("the last time", x.earliestStroke(0, 99000), 100000);
            x.setPowerLimit(1);
            x.scheduleStroke(1, 100000);
            Check.due("without power", x.earliestStroke(0, 99000), Check.NONE);
            Towers.at(x, 100000);
            Check.due("at the end of time", x.earliestStroke(0, 100000), Check.NONE);
        });
        Doc.says("promise 20", "NO_SUCH if the bell does not exist", () -> Edges.bells("earliestStroke",
                (x, value) -> x.earliestStroke(value, 100000)));
        Doc.says("promise 20", "BAD_VALUE if from is out of range", () -> {
            BellController x = Check.quickBells(1);
            for (int from : new int[] {-1, -2000, 100001, Integer.MIN_VALUE, Integer.MAX_VALUE - 2000,
                Integer.MAX_VALUE - 1999, Integer.MAX_VALUE}) {
                Check.due("earliestStroke(0, " + from + ")", x.earliestStroke(0, from), Check.BAD_VALUE);
            }
        });
        Doc.says("promise 20", "SWINGING if the bell swings now", () -> {
            BellController x = Check.quickBells(2);
            x.startSwing(0, 1);
            Check.due("earliestStroke(0, 5)", x.earliestStroke(0, 5), Check.SWINGING);
            Check.due("another bell", x.earliestStroke(1, 5), 5);
            x.stopMotor(0);
            x.advance(9);
            Check.due("up to its last turn", x.earliestStroke(0, 5), Check.SWINGING);
            x.advance(1);
            Check.due("when it has stopped", x.earliestStroke(0, 5), 11);
        });
        Doc.says("promise 20", "FULL if 300 strokes are scheduled", () -> {
            BellController x = Towers.filled(2, 300);
            Check.due("earliestStroke(1, 0)", x.earliestStroke(1, 0), Check.FULL);
            Check.due("earliestStroke(0, 100000)", x.earliestStroke(0, 100000), Check.FULL);
            x.cancelStroke(0, 309);
            Check.due("with 299", x.earliestStroke(1, 0), 1);
        });
    }
}
