/** Controllers in the states that the tests begin with. */
final class Towers {
    private Towers() { }

    /** The text of a pattern that has so many steps, up to 100, with the same bells each. */
    static String steps(int number, String bells) {
        String tens = number >= 10 ? "((" + bells + ")10)" + number / 10 : "";
        return tens + (number % 10 > 0 ? "(" + bells + ")" + number % 10 : "");
    }

    /** Schedules so many strokes of bell 0, one at each tick from a time on, by way of chime 4. */
    static BellController fill(BellController x, int strokes, int from) {
        for (int done = 0; done < strokes; done += 100) {
            int now = Math.min(100, strokes - done);
            Check.due("a pattern to fill with", Check.load(x, 4, steps(now, "a")), now);
            Check.due("filling", x.play(4, from + done, 1), now);
        }
        return x;
    }

    /** Quick bells, and so many strokes of bell 0 at the ticks from 10 on. */
    static BellController filled(int bells, int strokes) {
        return fill(Check.quickBells(bells), strokes, 10);
    }

    /** Moves the time on to a later one. */
    static BellController at(BellController x, int time) {
        for (int now = x.currentTime(); now < time; now += 2000) {
            x.advance(Math.min(2000, time - now));
        }
        Check.due("currentTime()", x.currentTime(), time);
        return x;
    }

    /** One bell. */
    static BellController bell(int delay, int recovery, int weight, int halfPeriod) {
        BellController x = new BellController();
        Check.due("addBell", x.addBell(delay, recovery, weight, halfPeriod), 0);
        return x;
    }

    /** A bell of half period 10 that has come to an amplitude, which a motor switched off lets fade. */
    static BellController fading(int amplitude) {
        BellController x = bell(1, 0, 1, 10);
        x.startSwing(0, amplitude);
        x.advance(300);
        Check.due("stopMotor(0)", x.stopMotor(0), amplitude);
        return x;
    }

    static String spaces(int number) {
        return " ".repeat(number);
    }
}
