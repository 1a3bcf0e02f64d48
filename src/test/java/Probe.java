import java.util.ArrayList;
import java.util.List;
import java.util.function.Supplier;

/** Looks whether a call leaves an object as it was: a twin without the call must answer alike from then on. */
final class Probe {
    /** What an object answers; each look is taken at an object of its own, as looking moves it on. */
    private interface Look {
        void at(BellController x, List<Integer> answers);
    }

    private static final List<Look> LOOKS = List.of(Probe::state, Probe::schedule, Probe::patterns, Probe::buffer,
            Probe::swinging, Probe::hammers, Probe::future);

    private Probe() { }

    /** The call is due to be refused, or to answer without changing anything. */
    static void unchanged(String name, Supplier<BellController> maker, Edges.Call call, int value, int due) {
        Check.due(name, call.on(maker.get(), value), due);
        for (int look = 0; look < LOOKS.size(); look++) {
            BellController called = maker.get();
            call.on(called, value);
            List<Integer> got = new ArrayList<>();
            List<Integer> want = new ArrayList<>();
            LOOKS.get(look).at(called, got);
            LOOKS.get(look).at(maker.get(), want);
            Check.holds(name + " changes nothing: look " + look + " " + got + " instead of " + want, got.equals(want));
        }
    }

    /** Whether the looks see that two objects differ, so that they can be relied on. */
    static boolean differ(BellController one, BellController other, int look) {
        List<Integer> first = new ArrayList<>();
        List<Integer> second = new ArrayList<>();
        LOOKS.get(look).at(one, first);
        LOOKS.get(look).at(other, second);
        return !first.equals(second);
    }

    static int looks() {
        return LOOKS.size();
    }

    private static void state(BellController x, List<Integer> answers) {
        answers.add(x.bellCount());
        answers.add(x.currentTime());
        for (int bell = 0; bell < 12; bell++) {
            answers.add(x.delay(bell));
        }
        answers.add(x.patternError());
        answers.add(x.patternErrorPosition());
        answers.add(x.entryCount());
        for (int entry = 0; entry < 8; entry++) {
            answers.add(x.dueTime(entry));
            answers.add(x.lastShift(entry));
        }
        answers.add(x.failureCount());
        answers.add(x.recordLength());
        for (int index : new int[] {0, 1, 2, 7, 50, 198, 199}) {
            answers.add(x.recordBell(index));
            answers.add(x.recordTime(index));
            answers.add(x.recordClapper(index));
        }
        answers.add(x.setPowerLimit(12));
        answers.add(x.setShakeLimit(7));
    }

    private static void schedule(BellController x, List<Integer> answers) {
        answers.add(x.scheduledCount());
        for (int index = 0; index < 60; index++) {
            answers.add(x.commandTime(index));
            answers.add(x.commandBell(index));
        }
        answers.add(x.commandTime(298));
        answers.add(x.commandTime(299));
        for (int bell = 0; bell < 12; bell++) {
            answers.add(x.nextStroke(bell));
        }
        for (int tick = 0; tick < 200; tick += 3) {
            answers.add(x.movingHammers(x.currentTime() + tick));
        }
    }

    private static void patterns(BellController x, List<Integer> answers) {
        for (int which = 0; which < 5; which++) {
            for (int step = 0; step < 12; step++) {
                answers.add(x.stepBells(which, step));
            }
            answers.add(x.stepBells(which, 99));
            answers.add(x.patternStrokes(which));
            answers.add(x.fastestTicks(which));
            answers.add(x.powerNeeded(which, 3));
        }
    }

    private static void buffer(BellController x, List<Integer> answers) {
        for (int part = 0; part < 16; part++) {
            answers.add(x.appendBytes(0x6a206b20, 0x20202020, 0x20202020, 0x20202020, 0x20202020));
        }
        answers.add(x.loadPattern(0, 300));
        answers.add(x.patternError());
        answers.add(x.patternErrorPosition());
        for (int step = 0; step < 100; step++) {
            answers.add(x.stepBells(0, step));
        }
    }

    private static void swinging(BellController x, List<Integer> answers) {
        for (int bell = 0; bell < 12; bell++) {
            answers.add(x.amplitude(bell));
            answers.add(x.nextTurn(bell));
            answers.add(x.force(bell));
            answers.add(x.amplitudeAfter(bell, 1));
            answers.add(x.amplitudeAfter(bell, 50));
            answers.add(x.turnsUntilLoud(bell));
            answers.add(x.calmestWait(bell, 500));
            answers.add(x.holdClapper(bell, true));
        }
        for (int ticks = 0; ticks <= 600; ticks += 40) {
            answers.add(x.shake(ticks));
        }
        answers.add(x.greatestShake(600));
    }

    private static void hammers(BellController x, List<Integer> answers) {
        for (int bell = 0; bell < 12; bell++) {
            answers.add(x.earliestStroke(bell, Math.min(100000, x.currentTime())));
            answers.add(x.earliestStroke(bell, Math.min(100000, x.currentTime() + 70)));
        }
        for (int tick = 0; tick < 150; tick++) {
            answers.add(x.scheduleStroke(tick % 12, x.currentTime() + tick));
        }
    }

    private static void future(BellController x, List<Integer> answers) {
        for (int round = 0; round < 40; round++) {
            answers.add(x.advance(round < 30 ? 7 : 60));
            answers.add(x.recordBell(0));
            answers.add(x.recordTime(0));
            answers.add(x.scheduledCount());
            answers.add(x.failureCount());
            answers.add(x.entryCount());
            answers.add(x.dueTime(0));
            answers.add(x.lastShift(0));
        }
    }
}
