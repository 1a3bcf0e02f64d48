/** Promises 37 to 43: swinging bells. */
public final class SwingTest {
    private static final int[] TO_500 = {0, 80, 156, 230, 302, 371, 438, 500, 500};

    private static BellController oneBell(int half) {
        BellController x = new BellController();
        x.addBell(10, 20, 50, half);
        return x;
    }

    private static void start() {
        BellController x = oneBell(20);
        Check.due("startSwing(1, 5)", x.startSwing(1, 5), Check.NO_SUCH);
        Check.due("startSwing(-1, 0)", x.startSwing(-1, 0), Check.NO_SUCH);
        Check.due("startSwing(0, 0)", x.startSwing(0, 0), Check.BAD_VALUE);
        Check.due("startSwing(0, 1001)", x.startSwing(0, 1001), Check.BAD_VALUE);
        for (int far : Check.FAR) {
            Check.due("startSwing", x.startSwing(far, 5), Check.NO_SUCH);
            Check.due("startSwing", x.startSwing(0, far), Check.BAD_VALUE);
        }
        Check.due("amplitude(0)", x.amplitude(0), Check.NONE);
        x.scheduleStroke(0, 30);
        Check.due("with a stroke", x.startSwing(0, 5), Check.BUSY);
        Check.due("a wrong target with a stroke", x.startSwing(0, 0), Check.BAD_VALUE);
        x.advance(29);
        Check.due("with a stroke", x.startSwing(0, 5), Check.BUSY);
        x.advance(1);
        Check.due("when it has sounded", x.startSwing(0, 1000), 50);
        Check.due("twice", x.startSwing(0, 5), Check.SWINGING);
        Check.due("a wrong target, twice", x.startSwing(0, 1001), Check.BAD_VALUE);
        Check.due("amplitude(0)", x.amplitude(0), 0);
        Check.due("nextTurn(0)", x.nextTurn(0), 50);
        x.addBell(1, 0, 1, 10);
        x.scheduleStroke(1, 40);
        Check.due("busy before too strong", x.setShakeLimit(0), 2000);
        Check.due("busy before too strong", x.startSwing(1, 1000), Check.BUSY);
    }

    private static void tooStrong() {
        BellController x = new BellController();
        x.addBell(1, 0, 99, 60);
        x.setShakeLimit(98);
        Check.due("startSwing(0, 100)", x.startSwing(0, 100), Check.TOO_STRONG);
        Check.due("amplitude(0)", x.amplitude(0), Check.NONE);
        Check.due("startSwing(0, 99)", x.startSwing(0, 99), 60);
        x = new BellController();
        x.addBell(1, 0, 99, 60);
        // only the tenth turn, at 600 itself, comes to 99 * 688 / 100
        x.setShakeLimit(680);
        Check.due("startSwing(0, 1000)", x.startSwing(0, 1000), Check.TOO_STRONG);
        x.setShakeLimit(681);
        Check.due("startSwing(0, 1000)", x.startSwing(0, 1000), 60);
        Check.due("amplitudeAfter(0, 9)", x.amplitudeAfter(0, 9), 628);
        Check.due("amplitudeAfter(0, 10)", x.amplitudeAfter(0, 10), 688);
        // what swings already counts, from the present tick on
        x.addBell(1, 0, 1, 60);
        x.advance(601);
        int now = Math.abs(x.shake(0) - 100000);
        x.setShakeLimit(now - 1);
        Check.due("startSwing(1, 1)", x.startSwing(1, 1), Check.TOO_STRONG);
        x.setShakeLimit(100000);
        Check.due("startSwing(1, 1)", x.startSwing(1, 1), 661);
    }

    private static void turns() {
        BellController x = oneBell(20);
        x.startSwing(0, 500);
        for (int turn = 0; turn < TO_500.length; turn++) {
            Check.due("amplitude(0)", x.amplitude(0), TO_500[turn]);
            Check.due("nextTurn(0)", x.nextTurn(0), 20 * turn + 20);
            int sounded = turn == 0 || turn >= 6 ? turn : 0;
            Check.due("recordLength()", x.recordLength(), sounded < 6 ? 0 : sounded - 5);
            x.advance(19);
            Check.due("amplitude(0)", x.amplitude(0), TO_500[turn]);
            Check.due("nextTurn(0)", x.nextTurn(0), 20 * turn + 20);
            x.advance(1);
        }
        Check.due("recordTime(0)", x.recordTime(0), 180);
        Check.due("recordClapper(0)", x.recordClapper(0), 1);
    }

    private static void bellNumbers() {
        BellController x = oneBell(20);
        for (int bell : new int[] {-1, 1, 12, Integer.MIN_VALUE, Integer.MAX_VALUE}) {
            Check.due("stopMotor", x.stopMotor(bell), Check.NO_SUCH);
            Check.due("holdClapper", x.holdClapper(bell, true), Check.NO_SUCH);
            Check.due("amplitude", x.amplitude(bell), Check.NO_SUCH);
            Check.due("nextTurn", x.nextTurn(bell), Check.NO_SUCH);
            Check.due("amplitudeAfter", x.amplitudeAfter(bell, 1), Check.NO_SUCH);
            Check.due("amplitudeAfter", x.amplitudeAfter(bell, -1), Check.NO_SUCH);
            Check.due("turnsUntilLoud", x.turnsUntilLoud(bell), Check.NO_SUCH);
        }
        Check.due("stopMotor(0)", x.stopMotor(0), Check.NONE);
        Check.due("amplitude(0)", x.amplitude(0), Check.NONE);
        Check.due("nextTurn(0)", x.nextTurn(0), Check.NONE);
        Check.due("amplitudeAfter(0, 1)", x.amplitudeAfter(0, 1), Check.NONE);
        Check.due("amplitudeAfter(0, 201)", x.amplitudeAfter(0, 201), Check.BAD_VALUE);
        Check.due("turnsUntilLoud(0)", x.turnsUntilLoud(0), Check.NONE);
    }

    private static void stopMotor() {
        BellController x = oneBell(10);
        x.startSwing(0, 500);
        x.advance(60);
        Check.due("stopMotor(0)", x.stopMotor(0), 438);
        Check.due("stopMotor(0)", x.stopMotor(0), 438);
        int[] fading = {423, 409, 395, 382};
        int sounded = x.recordLength();
        for (int amplitude : fading) {
            x.advance(10);
            Check.due("amplitude(0)", x.amplitude(0), amplitude);
        }
        Check.due("loud strokes alone", x.recordLength(), sounded + 2);
        Check.due("startSwing(0, 5)", x.startSwing(0, 5), Check.SWINGING);
        x.advance(2000);
        Check.due("amplitude(0)", x.amplitude(0), Check.NONE);
        Check.due("nextTurn(0)", x.nextTurn(0), Check.NONE);
        Check.due("stopMotor(0)", x.stopMotor(0), Check.NONE);
        Check.due("scheduleStroke", x.scheduleStroke(0, 3000), 2990);
    }

    /** A bell stops at a turn alone, and not while its motor is on. */
    private static void stopping() {
        BellController x = oneBell(10);
        x.startSwing(0, 1);
        Check.due("stopMotor(0)", x.stopMotor(0), 0);
        x.advance(9);
        Check.due("amplitude(0)", x.amplitude(0), 0);
        Check.due("scheduleStroke", x.scheduleStroke(0, 50), Check.SWINGING);
        x.advance(1);
        Check.due("amplitude(0)", x.amplitude(0), Check.NONE);
        Check.due("startSwing(0, 1)", x.startSwing(0, 1), 20);
        x.advance(100);
        Check.due("amplitude(0)", x.amplitude(0), 1);
        Check.due("nextTurn(0)", x.nextTurn(0), 120);
        x.stopMotor(0);
        x.advance(10);
        Check.due("amplitude(0)", x.amplitude(0), Check.NONE);
        Check.due("startSwing(0, 300)", x.startSwing(0, 300), 130);
        Check.due("amplitudeAfter(0, 1)", x.amplitudeAfter(0, 1), 80);
    }

    private static void holdClapper() {
        BellController x = oneBell(10);
        Check.due("holdClapper(0, false)", x.holdClapper(0, false), 0);
        Check.due("holdClapper(0, true)", x.holdClapper(0, true), 0);
        Check.due("holdClapper(0, true)", x.holdClapper(0, true), 1);
        x.addBell(1, 0, 1, 10);
        Check.due("holdClapper(1, false)", x.holdClapper(1, false), 0);
        x.startSwing(0, 400);
        x.startSwing(1, 400);
        Check.due("advance(80)", x.advance(80), 3);
        Check.due("recordBell(2)", x.recordBell(2), 1);
        Check.due("holdClapper(0, false)", x.holdClapper(0, false), 1);
        Check.due("holdClapper(0, false)", x.holdClapper(0, false), 0);
        Check.due("advance(10)", x.advance(10), 2);
        Check.due("a hammer is not held", x.holdClapper(1, true), 0);
        Check.due("advance(10)", x.advance(10), 1);
        Check.due("recordBell(0)", x.recordBell(0), 0);
    }

    private static void amplitudeAfter() {
        BellController x = oneBell(20);
        x.startSwing(0, 500);
        for (int turn = 0; turn < TO_500.length; turn++) {
            Check.due("amplitudeAfter(0, " + turn + ")", x.amplitudeAfter(0, turn), TO_500[turn]);
        }
        Check.due("amplitudeAfter(0, 200)", x.amplitudeAfter(0, 200), 500);
        for (int turns : new int[] {-1, 201, Integer.MIN_VALUE, Integer.MAX_VALUE}) {
            Check.due("amplitudeAfter", x.amplitudeAfter(0, turns), Check.BAD_VALUE);
        }
        x.advance(125);
        Check.due("amplitudeAfter(0, 0)", x.amplitudeAfter(0, 0), 438);
        Check.due("amplitudeAfter(0, 1)", x.amplitudeAfter(0, 1), 500);
        x.stopMotor(0);
        Check.due("amplitudeAfter(0, 1)", x.amplitudeAfter(0, 1), 423);
        Check.due("amplitudeAfter(0, 200)", x.amplitudeAfter(0, 200), 0);
        Check.due("nothing is changed", x.amplitude(0), 438);
        Check.due("nothing is changed", x.nextTurn(0), 140);
    }

    private static void turnsUntilLoud() {
        BellController x = oneBell(20);
        x.startSwing(0, 400);
        Check.due("turnsUntilLoud(0)", x.turnsUntilLoud(0), 6);
        x.holdClapper(0, true);
        Check.due("with a held clapper", x.turnsUntilLoud(0), 6);
        x.advance(119);
        Check.due("turnsUntilLoud(0)", x.turnsUntilLoud(0), 1);
        x.advance(1);
        Check.due("when it is loud", x.turnsUntilLoud(0), 1);
        x.stopMotor(0);
        Check.due("with the motor off", x.turnsUntilLoud(0), Check.NONE);
        x = oneBell(20);
        x.startSwing(0, 399);
        Check.due("a target below", x.turnsUntilLoud(0), Check.NONE);
        Check.due("advance(1000)", x.advance(1000), 0);
        x = oneBell(20);
        x.startSwing(0, 1000);
        x.advance(120);
        x.stopMotor(0);
        Check.due("still loud", x.turnsUntilLoud(0), 1);
        x.advance(40);
        Check.due("not loud any more", x.turnsUntilLoud(0), Check.NONE);
    }

    public static void main(String[] args) {
        start();
        tooStrong();
        turns();
        bellNumbers();
        stopMotor();
        stopping();
        holdClapper();
        amplitudeAfter();
        turnsUntilLoud();
        Check.end();
    }
}
