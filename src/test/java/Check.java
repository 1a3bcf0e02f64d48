/** What the tests share: it prints each answer that is not the one that is due. */
final class Check {
    static final int NONE = -1, NO_SUCH = -2, BAD_VALUE = -3, FULL = -4, TOO_LATE = -5, SWINGING = -6,
            CLASH = -7, POWER = -8, MISSING = -9, BUSY = -10, TOO_STRONG = -11;
    static final int[] FAR = {Integer.MIN_VALUE, Integer.MIN_VALUE + 1, -100001, Integer.MAX_VALUE - 1,
        Integer.MAX_VALUE};

    private static int wrong = 0;
    private static int checked = 0;

    private Check() { }

    static void due(String call, int got, int want) {
        checked++;
        if (got != want) {
            wrong++;
            StackTraceElement place = new Throwable().getStackTrace()[1];
            System.out.println(place + ": " + call + " answered " + got + ", due is " + want);
        }
    }

    static void holds(String what, boolean truth) {
        due(what, truth ? 1 : 0, 1);
    }

    static void end() {
        System.out.println(wrong == 0 ? checked + " answers are as due"
                : wrong + " of " + checked + " answers are not as due");
        if (wrong != 0) {
            System.exit(1);
        }
    }

    /** Appends a text, filled up with "?" to whole calls of appendBytes. */
    static void append(BellController x, String text) {
        for (int start = 0; start < text.length(); start += 20) {
            int[] words = new int[5];
            for (int i = 0; i < 20; i++) {
                int sign = start + i < text.length() ? text.charAt(start + i) : '?';
                words[i / 4] = words[i / 4] << 8 | sign;
            }
            x.appendBytes(words[0], words[1], words[2], words[3], words[4]);
        }
    }

    static int load(BellController x, int which, String text) {
        append(x, text);
        return x.loadPattern(which, text.length());
    }

    /** A controller with so many bells of delay 1, recovery 0, weight 1 and half period 10. */
    static BellController quickBells(int bells) {
        BellController x = new BellController();
        for (int i = 0; i < bells; i++) {
            x.addBell(1, 0, 1, 10);
        }
        return x;
    }
}
