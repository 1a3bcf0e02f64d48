/** Promises 44 to 48: forces, and the shake of the tower. */
public final class TowerTest {
    private static void force() {
        BellController x = new BellController();
        x.addBell(1, 0, 53, 20);
        x.addBell(1, 0, 50, 20);
        Check.due("force(0)", x.force(0), 100000);
        for (int bell : new int[] {-1, 2, 12, Integer.MIN_VALUE, Integer.MAX_VALUE}) {
            Check.due("force", x.force(bell), Check.NO_SUCH);
        }
        x.startSwing(0, 500);
        Check.due("force(0)", x.force(0), 100000);
        x.advance(20);
        // side -1, amplitude 80: -53 * 80 * (20 - 2 * u) / 2000, towards 0
        Check.due("force(0)", x.force(0), 100000 - 42);
        x.advance(1);
        Check.due("force(0)", x.force(0), 100000 - 38);
        x.advance(9);
        Check.due("force(0)", x.force(0), 100000);
        x.advance(1);
        Check.due("force(0)", x.force(0), 100000 + 4);
        x.advance(8);
        Check.due("force(0)", x.force(0), 100000 + 38);
        x.advance(1);
        // side +1, amplitude 156
        Check.due("force(0)", x.force(0), 100000 + 82);
        Check.due("force(1)", x.force(1), 100000);
        x.stopMotor(0);
        x.advance(2000);
        Check.due("when it has stopped", x.force(0), 100000);
    }

    /** The heaviest, strongest bell comes to the end of the range of a force. */
    private static void strongest() {
        BellController x = new BellController();
        x.addBell(1, 0, 99, 60);
        x.addBell(1, 0, 99, 60);
        x.setShakeLimit(100000);
        x.startSwing(0, 1000);
        x.startSwing(1, 1000);
        x.advance(1800);
        Check.due("amplitude(0)", x.amplitude(0), 1000);
        Check.due("force(0)", x.force(0), 100990);
        Check.due("shake(0)", x.shake(0), 101980);
        Check.due("shake(60)", x.shake(60), 98020);
        Check.due("greatestShake(0)", x.greatestShake(0), 1980);
    }

    private static void shake() {
        BellController x = new BellController();
        Check.due("shake(0)", x.shake(0), 100000);
        for (int ticks : new int[] {-1, 601, Integer.MIN_VALUE, Integer.MAX_VALUE}) {
            Check.due("shake", x.shake(ticks), Check.BAD_VALUE);
            Check.due("greatestShake", x.greatestShake(ticks), Check.BAD_VALUE);
        }
        x = swinging();
        int[] due = forcesToCome();
        int most = 0;
        for (int ticks = 0; ticks <= 600; ticks++) {
            most = Math.max(most, Math.abs(due[ticks]));
            if (ticks % 7 == 0 || ticks > 590) {
                Check.due("shake(" + ticks + ")", x.shake(ticks), 100000 + due[ticks]);
                Check.due("greatestShake(" + ticks + ")", x.greatestShake(ticks), most);
            }
        }
        Check.due("nothing is changed", x.currentTime(), 507);
    }

    /** Three bells that swing, one of them with its motor off. */
    private static BellController swinging() {
        BellController x = new BellController();
        x.addBell(1, 0, 53, 20);
        x.addBell(1, 0, 77, 33);
        x.addBell(1, 0, 12, 10);
        x.startSwing(0, 900);
        x.startSwing(1, 300);
        x.advance(500);
        x.stopMotor(1);
        x.startSwing(2, 1000);
        x.advance(7);
        return x;
    }

    /** The sums of their forces at each of the next ticks; a new object each 100 ticks, as one has 512 calls. */
    private static int[] forcesToCome() {
        int[] sums = new int[601];
        BellController x = swinging();
        for (int ticks = 0; ticks <= 600; ticks++) {
            if (ticks % 100 == 0) {
                x = swinging();
                x.advance(ticks);
            }
            sums[ticks] = x.force(0) + x.force(1) + x.force(2) - 300000;
            x.advance(1);
        }
        return sums;
    }

    private static void limit() {
        BellController x = new BellController();
        Check.due("setShakeLimit(-1)", x.setShakeLimit(-1), Check.BAD_VALUE);
        Check.due("setShakeLimit(100001)", x.setShakeLimit(100001), Check.BAD_VALUE);
        for (int far : Check.FAR) {
            Check.due("setShakeLimit", x.setShakeLimit(far), Check.BAD_VALUE);
        }
        Check.due("setShakeLimit(0)", x.setShakeLimit(0), 2000);
        Check.due("setShakeLimit(100000)", x.setShakeLimit(100000), 0);
        Check.due("setShakeLimit(5)", x.setShakeLimit(5), 100000);
        x.addBell(1, 0, 99, 10);
        Check.due("startSwing(0, 7)", x.startSwing(0, 7), Check.TOO_STRONG);
        Check.due("startSwing(0, 6)", x.startSwing(0, 6), 10);
        x.setShakeLimit(0);
        Check.due("what swings goes on", x.amplitude(0), 0);
        x.addBell(1, 0, 1, 10);
        Check.due("startSwing(1, 1)", x.startSwing(1, 1), Check.TOO_STRONG);
    }

    /** A tower with bells that swing already, and bell 3 that doesn't. */
    private static BellController tower(int variant) {
        BellController x = new BellController();
        x.setShakeLimit(100000);
        x.addBell(1, 0, 60 + variant, 20 + variant);
        x.addBell(1, 0, 45, 31);
        x.addBell(1, 0, 80, 12);
        x.addBell(1, 0, 70, 10 + 7 * variant);
        x.startSwing(0, 900);
        x.advance(400 + 13 * variant);
        if (variant % 2 == 0) {
            x.startSwing(1, 650);
            x.advance(30);
        }
        if (variant > 3) {
            x.stopMotor(0);
            x.startSwing(2, 200);
        }
        return x;
    }

    /** Waiting and starting is tried out for each number of ticks. */
    private static void calmestWait() {
        for (int variant = 0; variant < 7; variant++) {
            int target = 100 + 150 * variant;
            int calmest = 0;
            int least = Integer.MAX_VALUE;
            for (int wait = 0; wait < 2 * (10 + 7 * variant); wait++) {
                BellController x = tower(variant);
                x.advance(wait);
                x.startSwing(3, target);
                int greatest = x.greatestShake(600);
                if (greatest < least) {
                    least = greatest;
                    calmest = wait;
                }
            }
            BellController x = tower(variant);
            x.setShakeLimit(0);
            Check.due("calmestWait(3, " + target + ")", x.calmestWait(3, target), calmest);
            Check.due("nothing is changed", x.amplitude(3), Check.NONE);
        }
    }

    private static void calmestErrors() {
        BellController x = new BellController();
        Check.due("calmestWait(0, 5)", x.calmestWait(0, 5), Check.NO_SUCH);
        x.addBell(1, 0, 50, 20);
        Check.due("calmestWait(1, 0)", x.calmestWait(1, 0), Check.NO_SUCH);
        for (int target : new int[] {-1, 0, 1001, Integer.MIN_VALUE, Integer.MAX_VALUE}) {
            Check.due("calmestWait", x.calmestWait(0, target), Check.BAD_VALUE);
            Check.due("calmestWait", x.calmestWait(target == 0 ? 1 : target, 5), Check.NO_SUCH);
        }
        x.scheduleStroke(0, 500);
        Check.due("alone, with a stroke", x.calmestWait(0, 1000), 0);
        Check.due("calmestWait(0, 1)", x.calmestWait(0, 1), 0);
        x.cancelStroke(0, 500);
        x.startSwing(0, 1000);
        Check.due("calmestWait(0, 0)", x.calmestWait(0, 0), Check.BAD_VALUE);
        Check.due("calmestWait(0, 5)", x.calmestWait(0, 5), Check.SWINGING);
    }

    /** Even between shakes of 1 and 0 the smaller one is chosen. */
    private static void calmestOfSmallShakes() {
        BellController x = new BellController();
        x.addBell(1, 0, 1, 10);
        x.addBell(1, 0, 1, 10);
        x.startSwing(0, 100);
        x.advance(20);
        x.stopMotor(0);
        Check.due("shake(0)", x.shake(0), 100001);
        Check.due("shake(1)", x.shake(1), 100000);
        Check.due("calmestWait(1, 1)", x.calmestWait(1, 1), 1);
    }

    public static void main(String[] args) {
        force();
        strongest();
        shake();
        limit();
        calmestWait();
        calmestErrors();
        calmestOfSmallShakes();
        Check.end();
    }
}
