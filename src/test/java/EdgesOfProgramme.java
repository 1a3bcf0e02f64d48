/** Section 6 and promises 31 to 36: a test for each sentence that names a boundary. */
final class EdgesOfProgramme {
    private EdgesOfProgramme() { }

    static void all() {
        section6();
        section6Order();
        section6Due();
        section6Periods();
        promise31();
        promise31Refusals();
        promises32To34();
        promise35();
        promise36();
    }

    /** A quick bell whose five patterns are a stroke each. */
    private static BellController chimes() {
        return Edges.fivePatterns();
    }

    private static void section6() {
        Doc.says("section 6", "The programme has at most 8 entries, numbered from 0", () -> {
            BellController x = chimes();
            for (int number = 0; number < 8; number++) {
                Check.due("addEntry", x.addEntry(0, 5000 + number, 0, 1, 0), number);
            }
            Check.due("a ninth entry", x.addEntry(0, 5000, 0, 1, 0), Check.FULL);
            Check.due("entryCount()", x.entryCount(), 8);
            Check.due("dueTime(0)", x.dueTime(0), 5000);
            Check.due("dueTime(7)", x.dueTime(7), 5007);
            Check.due("dueTime(8)", x.dueTime(8), Check.NO_SUCH);
        });
        Doc.says("section 6", "An entry has a pattern (0 for the tune, 1 to 4 for a chime), a due time, a period, "
                + "ticks per step and a largest shift", () -> {
            for (int which = 0; which < 5; which++) {
                BellController x = Check.quickBells(5);
                for (int other = 0; other < 5; other++) {
                    Check.load(x, other, "abcde".substring(other, other + 1) + "-a");
                }
                x.scheduleStroke(which, 60);
                x.addEntry(which, 60, 200, 7, 1);
                x.advance(1);
                Check.due("lastShift(0)", x.lastShift(0), 1);
                Check.due("dueTime(0)", x.dueTime(0), 260);
                Check.due("commandBell(1)", x.commandBell(1), which);
                Check.due("commandTime(1)", x.commandTime(1), 60);
                Check.due("commandBell(2)", x.commandBell(2), 0);
                Check.due("commandTime(2)", x.commandTime(2), 74);
            }
        });
        Doc.says("section 6", "If an entry is removed, the numbers of the later entries decrease by 1", () -> {
            for (int removed = 0; removed < 8; removed++) {
                BellController x = chimes();
                for (int number = 0; number < 8; number++) {
                    x.addEntry(0, 5000 + number, 0, 1, 0);
                }
                Check.due("removeEntry(" + removed + ")", x.removeEntry(removed), 7);
                for (int number = 0; number < 7; number++) {
                    int due = 5000 + (number < removed ? number : number + 1);
                    Check.due("dueTime(" + number + ")", x.dueTime(number), due);
                }
                Check.due("dueTime(7)", x.dueTime(7), Check.NO_SUCH);
                Check.due("a new entry", x.addEntry(0, 6000, 0, 1, 0), 7);
                Check.due("dueTime(7)", x.dueTime(7), 6000);
            }
        });
    }

    private static void section6Order() {
        Doc.says("section 6", "While the time advances, at each tick, after all hammer strokes and turns, the entries "
                + "are looked at in the order of their numbers, each entry once", () -> {
            BellController x = chimes();
            // all due, all far too late: each fails at a tick, and its due time grows once a tick
            Towers.at(x, 1000);
            x.addEntry(0, 0, 200, 1, 0);
            x.addEntry(0, 0, 0, 1, 0);
            x.addEntry(0, 0, 300, 1, 0);
            Check.due("no tick", x.advance(0), 0);
            Check.due("failureCount()", x.failureCount(), 0);
            x.advance(1);
            Check.due("entryCount()", x.entryCount(), 2);
            Check.due("dueTime(0)", x.dueTime(0), 200);
            Check.due("dueTime(1)", x.dueTime(1), 300);
            Check.due("failureCount()", x.failureCount(), 3);
            x.advance(1);
            Check.due("dueTime(0)", x.dueTime(0), 400);
            Check.due("dueTime(1)", x.dueTime(1), 600);
            Check.due("failureCount()", x.failureCount(), 5);
            firstComeFirstServed();
            afterStrokesAndTurns();
        });
    }

    private static void firstComeFirstServed() {
        BellController x = chimes();
        x.addEntry(3, 50, 200, 1, 10);
        x.addEntry(2, 50, 200, 1, 10);
        x.addEntry(1, 49, 200, 1, 10);
        x.advance(1);
        Check.due("lastShift(0)", x.lastShift(0), 0);
        Check.due("lastShift(1)", x.lastShift(1), 1);
        Check.due("lastShift(2)", x.lastShift(2), 0);
        x.removeEntry(0);
        x.addEntry(4, 250, 0, 1, 10);
        Towers.at(x, 150);
        Check.due("the first of those that are left", x.lastShift(0), 0);
    }

    private static void afterStrokesAndTurns() {
        BellController x = Towers.bell(1, 0, 1, 10);
        Check.load(x, 0, "a");
        x.startSwing(0, 1);
        x.stopMotor(0);
        x.addEntry(0, 110, 200, 1, 0);
        x.advance(10);
        Check.due("it is free at that tick", x.lastShift(0), 0);
        BellController y = Towers.filled(1, 300);
        Check.load(y, 4, "a");
        y.addEntry(4, 110, 0, 1, 500);
        Check.due("a stroke sounds first, which makes room", y.advance(10), 1);
        Check.due("failureCount()", y.failureCount(), 0);
        Check.due("scheduledCount()", y.scheduledCount(), 300);
    }

    private static void section6Due() {
        Doc.says("section 6", "An entry whose due time is at most 100 ticks later than the current time (or not later) "
                + "is carried out: its pattern is woven with its due time, its ticks per step and its largest shift, "
                + "as weave does", () -> {
            BellController x = chimes();
            x.addEntry(0, 103, 0, 1, 0);
            x.addEntry(0, 102, 0, 1, 0);
            x.addEntry(0, 101, 0, 1, 0);
            x.addEntry(0, 100, 0, 1, 0);
            x.addEntry(0, 0, 0, 1, 0);
            x.addEntry(0, 1, 0, 1, 1);
            x.addEntry(0, 2, 0, 1, 1);
            x.advance(1);
            Check.due("101 and earlier", x.entryCount(), 2);
            Check.due("0 is too late", x.failureCount(), 1);
            Check.due("the strokes 2, 3, 100 and 101", x.scheduledCount(), 4);
            Check.due("nextStroke(0)", x.nextStroke(0), 2);
            x.advance(1);
            Check.due("102", x.entryCount(), 1);
            x.advance(1);
            Check.due("103", x.entryCount(), 0);
            Check.due("advance(100)", x.advance(100), 4);
        });
        Doc.says("section 6", "If the pattern is missing or cannot be woven, the entry has failed", () -> {
            BellController x = Check.quickBells(1);
            Check.load(x, 0, "a");
            x.addEntry(1, 50, 200, 1, 500);
            x.addEntry(0, 50, 200, 1, 0);
            x.addEntry(0, 50, 200, 1, 0);
            x.advance(1);
            Check.due("failureCount()", x.failureCount(), 2);
            Check.due("missing", x.lastShift(0), Check.NONE);
            Check.due("woven", x.lastShift(1), 0);
            Check.due("not woven", x.lastShift(2), Check.NONE);
            Check.due("they stay, with their period", x.dueTime(0), 250);
        });
    }

    private static void section6Periods() {
        Doc.says("section 6", "Then, if the period is greater than 0 and due time + period is at most 100,000, "
                + "the due time grows by the period", () -> {
            BellController x = Towers.at(chimes(), 90000);
            x.addEntry(0, 90050, 9950, 1, 0);
            x.addEntry(0, 90051, 200, 1, 0);
            x.addEntry(0, 50000, 50000, 1, 0);
            x.advance(1);
            Check.due("up to 100000", x.dueTime(0), 100000);
            Check.due("dueTime(1)", x.dueTime(1), 90251);
            Check.due("up to 100000", x.dueTime(2), 100000);
            Check.due("removeEntry(1)", x.removeEntry(1), 2);
            Towers.at(x, 99899);
            Check.due("entryCount()", x.entryCount(), 2);
            Check.due("advance(100)", x.advance(100), 0);
            Check.due("entryCount()", x.entryCount(), 0);
            Check.due("the last time", x.advance(1), 1);
        });
        Doc.says("section 6", "otherwise the entry is removed", () -> {
            BellController x = Towers.at(chimes(), 90000);
            x.addEntry(0, 90050, 9951, 1, 0);
            x.addEntry(0, 90051, 0, 1, 0);
            x.addEntry(0, 50001, 50000, 1, 0);
            x.addEntry(0, 95000, 0, 1, 0);
            x.advance(1);
            Check.due("entryCount()", x.entryCount(), 1);
            Check.due("dueTime(0)", x.dueTime(0), 95000);
            Check.due("lastShift(0)", x.lastShift(0), Check.NONE);
            Check.due("the one of 50001 failed", x.failureCount(), 1);
            Check.due("those carried out", x.scheduledCount(), 2);
        });
    }

    private static void promise31() {
        Doc.says("promise 31", "The pattern may be missing", () -> {
            BellController x = Check.quickBells(1);
            for (int which = 0; which < 5; which++) {
                Check.due("addEntry", x.addEntry(which, 120 + which, 0, 1, 0), which);
            }
            for (int which = 0; which < 5; which++) {
                Check.load(x, which, "a");
            }
            x.advance(50);
            Check.due("loaded in time", x.failureCount(), 0);
            Check.due("scheduledCount()", x.scheduledCount(), 5);
        });
        Doc.says("promise 31", "- `which`: 0 for the tune, 1 to 4 for a chime", () -> Edges.patterns("addEntry",
                (x, value) -> x.addEntry(value, 50, 0, 1, 0)));
        Doc.says("promise 31", "- `time`: due time, 0 to 100,000", () -> Edges.range("time", 0, 100000,
                Check.BAD_VALUE, EdgesOfProgramme::chimes, (x, value) -> {
                    int entry = x.addEntry(0, value, 200, 1, 500);
                    return entry == 0 && x.dueTime(0) != value ? Check.NO_SUCH : entry;
                }));
        Doc.says("promise 31", "- `period`: period, 0 or 200 to 50,000", () -> {
            Edges.range("period", 200, 50000, Check.BAD_VALUE, EdgesOfProgramme::chimes,
                    (x, value) -> x.addEntry(0, 50, value, 1, 0));
            Edges.range("no period", 0, 0, Check.BAD_VALUE, EdgesOfProgramme::chimes,
                    (x, value) -> x.addEntry(0, 50, value, 1, 0));
            Check.due("100", chimes().addEntry(0, 50, 100, 1, 0), Check.BAD_VALUE);
            for (int period : new int[] {200, 50000}) {
                BellController x = chimes();
                x.addEntry(0, 50, period, 1, 0);
                x.advance(1);
                Check.due("dueTime(0)", x.dueTime(0), 50 + period);
            }
        });
        Doc.says("promise 31", "- `ticks`: ticks per step, 1 to 200", () -> Edges.range("ticks", 1, 200,
                Check.BAD_VALUE, EdgesOfProgramme::chimes, (x, value) -> x.addEntry(0, 50, 0, value, 0)));
        Doc.says("promise 31", "- `shift`: largest shift, 0 to 500", () -> {
            Edges.range("shift", 0, 500, Check.BAD_VALUE, EdgesOfProgramme::chimes,
                    (x, value) -> x.addEntry(0, 50, 0, 1, value));
            BellController x = Towers.at(chimes(), 999);
            // at 1000 the earliest stroke is that of 1001
            x.addEntry(0, 501, 50000, 1, 500);
            x.addEntry(0, 501, 50000, 1, 500);
            x.addEntry(0, 1003, 50000, 1, 0);
            x.advance(1);
            Check.due("a shift of 500", x.lastShift(0), 500);
            Check.due("one of 501", x.lastShift(1), Check.NONE);
            Check.due("one of 0", x.lastShift(2), 0);
        });
    }

    private static void promise31Refusals() {
        Doc.says("promise 31", "NO_SUCH if which is out of range", () -> {
            for (int value : new int[] {-1, 5, Integer.MIN_VALUE, Integer.MAX_VALUE}) {
                Check.due("without patterns", new BellController().addEntry(value, 50, 0, 1, 0), Check.NO_SUCH);
            }
        });
        Doc.says("promise 31", "BAD_VALUE if another parameter is out of range", () -> {
            BellController x = chimes();
            int[][] wrong = {{-1, 0, 1, 0}, {100001, 0, 1, 0}, {0, -200, 1, 0}, {0, 199, 1, 0}, {0, 50001, 1, 0},
                {0, 0, 0, 0}, {0, 0, 201, 0}, {0, 0, 1, -1}, {0, 0, 1, 501}, {-1, 1, 0, -1}};
            for (int[] values : wrong) {
                Check.due("addEntry", x.addEntry(0, values[0], values[1], values[2], values[3]), Check.BAD_VALUE);
            }
            Check.due("entryCount()", x.entryCount(), 0);
        });
        Doc.says("promise 31", "FULL if there are already 8 entries", () -> {
            BellController x = chimes();
            for (int number = 0; number < 8; number++) {
                Check.due("addEntry", x.addEntry(0, 5000, 0, 1, 0), number);
            }
            Check.due("a ninth", x.addEntry(4, 100000, 50000, 200, 500), Check.FULL);
            Check.due("entryCount()", x.entryCount(), 8);
            Check.due("removeEntry(3)", x.removeEntry(3), 7);
            Check.due("an eighth", x.addEntry(4, 100000, 50000, 200, 500), 7);
            Check.due("a ninth", x.addEntry(4, 100000, 50000, 200, 500), Check.FULL);
        });
    }

    private static void promises32To34() {
        Doc.says("promise 32", "NO_SUCH if the entry does not exist", () -> {
            Edges.entries("removeEntry", BellController::removeEntry);
            BellController x = chimes();
            x.addEntry(0, 5000, 0, 1, 0);
            Check.due("removeEntry(1)", x.removeEntry(1), Check.NO_SUCH);
            Check.due("removeEntry(0)", x.removeEntry(0), 0);
            Check.due("removeEntry(0)", x.removeEntry(0), Check.NO_SUCH);
        });
        Doc.says("promise 33", "Returns 0 to 8", () -> {
            BellController x = chimes();
            for (int entries = 0; entries < 8; entries++) {
                Check.due("entryCount()", x.entryCount(), entries);
                x.addEntry(0, 99 + entries, 0, 1, 0);
            }
            Check.due("entryCount()", x.entryCount(), 8);
            x.addEntry(0, 100, 0, 1, 0);
            Check.due("entryCount()", x.entryCount(), 8);
            x.advance(1);
            Check.due("99, 100 and 101 were due", x.entryCount(), 5);
            x.advance(5);
            Check.due("entryCount()", x.entryCount(), 0);
        });
        Doc.says("promise 34", "NO_SUCH if the entry does not exist", () -> {
            Edges.entries("dueTime", BellController::dueTime);
            BellController x = chimes();
            x.addEntry(0, 50, 0, 1, 0);
            Check.due("dueTime(0)", x.dueTime(0), 50);
            x.advance(1);
            Check.due("when it has been carried out", x.dueTime(0), Check.NO_SUCH);
        });
    }

    private static void promise35() {
        Doc.says("promise 35", "NONE if it was not carried out yet or has failed the last time", () -> {
            BellController x = chimes();
            x.addEntry(0, 150, 200, 1, 3);
            Check.due("not yet", x.lastShift(0), Check.NONE);
            x.advance(49);
            Check.due("not yet", x.lastShift(0), Check.NONE);
            x.scheduleStroke(0, 150);
            x.scheduleStroke(0, 151);
            x.scheduleStroke(0, 152);
            x.advance(1);
            Check.due("woven at last", x.lastShift(0), 3);
            for (int time = 350; time < 354; time++) {
                x.scheduleStroke(0, time);
            }
            x.advance(199);
            Check.due("still the last time", x.lastShift(0), 3);
            x.advance(1);
            Check.due("failed", x.lastShift(0), Check.NONE);
            x.advance(200);
            Check.due("woven again", x.lastShift(0), 0);
        });
        Doc.says("promise 35", "Returns the shift with which an entry was woven when it was carried out for the last "
                + "time", () -> {
            BellController x = chimes();
            x.addEntry(0, 100, 200, 1, 500);
            x.addEntry(0, 100, 200, 1, 500);
            x.advance(1);
            Check.due("lastShift(0)", x.lastShift(0), 0);
            Check.due("lastShift(1)", x.lastShift(1), 1);
            x.removeEntry(0);
            Check.due("it goes with its entry", x.lastShift(0), 1);
            x.addEntry(0, 5000, 200, 1, 500);
            Check.due("a new entry has none", x.lastShift(1), Check.NONE);
            x.advance(299);
            Check.due("the latest", x.lastShift(0), 0);
        });
        Doc.says("promise 35", "NO_SUCH if the entry does not exist", () -> Edges.entries("lastShift",
                BellController::lastShift));
    }

    private static void promise36() {
        Doc.says("promise 36", "Counts how often entries have failed, removed entries included", () -> {
            BellController x = Check.quickBells(1);
            Check.due("at first", x.failureCount(), 0);
            x.addEntry(0, 50, 0, 1, 0);
            x.addEntry(0, 50, 200, 1, 0);
            x.advance(1);
            Check.due("two have failed, one is removed", x.failureCount(), 2);
            Check.due("removeEntry(0)", x.removeEntry(0), 0);
            Check.due("when both are removed", x.failureCount(), 2);
            x.addEntry(0, 5000, 0, 1, 0);
            x.removeEntry(0);
            Check.due("removed by hand is not failed", x.failureCount(), 2);
            Check.due("a weave by hand is no entry", x.weave(0, 0, 1, 0), Check.MISSING);
            Check.due("failureCount()", x.failureCount(), 2);
            Check.load(x, 0, "a");
            x.addEntry(0, 50, 0, 1, 0);
            x.advance(1);
            Check.due("woven", x.failureCount(), 2);
        });
    }
}
