/** Section 3, as far as it tells how patterns are written, and promises 21 to 25: a test for each boundary. */
final class EdgesOfTexts {
    private static final String HUNDRED = "-20-20-20-20-20";

    private EdgesOfTexts() { }

    static void all() {
        steps();
        letters();
        numbers();
        spaces();
        items();
        groups();
        errorCodes();
        lengthErrors();
        positions();
        promise21();
        promise22();
        promise22Buffer();
        promises23And24();
        promise25();
    }

    /** A text with its steps as bit sets. */
    private static void reads(String text, int... steps) {
        BellController x = new BellController();
        Check.due("loadPattern of '" + text + "'", Check.load(x, 0, text), steps.length);
        for (int step = 0; step < steps.length; step++) {
            Check.due("step " + step + " of '" + text + "'", x.stepBells(0, step), steps[step]);
        }
        Check.due("behind the steps of '" + text + "'", x.stepBells(0, steps.length), Check.NONE);
        Check.due("patternError of '" + text + "'", x.patternError(), 0);
        Check.due("patternErrorPosition of '" + text + "'", x.patternErrorPosition(), Check.NONE);
    }

    private static void hasSteps(String text, int length) {
        BellController x = new BellController();
        Check.due("loadPattern of '" + text + "'", Check.load(x, 0, text), length);
        Check.due("patternErrorPosition of '" + text + "'", x.patternErrorPosition(), Check.NONE);
    }

    private static void bad(String text, int code, int position) {
        BellController x = new BellController();
        Check.due("loadPattern of '" + text + "'", Check.load(x, 0, text), -30 - code);
        Check.due("patternError of '" + text + "'", x.patternError(), code);
        Check.due("patternErrorPosition of '" + text + "'", x.patternErrorPosition(), position);
        Check.due("stepBells behind '" + text + "'", x.stepBells(0, 0), Check.MISSING);
    }

    private static int[] bellsAndRests(int bells, int length) {
        int[] steps = new int[length];
        steps[0] = bells;
        return steps;
    }

    private static void steps() {
        Doc.says("section 3", "A pattern is a sequence of 1 to 100 steps", () -> {
            bad("", 5, 0);
            hasSteps("a", 1);
            hasSteps("-", 1);
            hasSteps("-20-20-20-20-19", 99);
            hasSteps(HUNDRED, 100);
            bad(HUNDRED + "-", 4, 15);
            hasSteps("a ".repeat(99) + "a", 100);
            bad("a ".repeat(100) + "a", 4, 200);
        });
        Doc.says("section 3", "Each step is a set of bells, which may be empty (a rest)", () -> {
            reads("-", 0);
            reads("a", 1);
            reads("l", 2048);
            reads("abcdefghijkl", 4095);
        });
        Doc.says("section 3", "The controller holds one tune and four chimes, 1 to 4", () -> {
            BellController x = new BellController();
            for (int which = 0; which < 5; which++) {
                Check.due("loadPattern", Check.load(x, which, "abcde".substring(which, which + 1)), 1);
            }
            for (int which = 0; which < 5; which++) {
                Check.due("stepBells(" + which + ", 0)", x.stepBells(which, 0), 1 << which);
            }
            Check.append(x, "a");
            Check.due("no chime 5", x.loadPattern(5, 1), Check.NO_SUCH);
            Check.due("no chime -1", x.loadPattern(-1, 1), Check.NO_SUCH);
        });
        Doc.says("section 3", "They are patterns, and all are missing at first", () -> {
            for (int which = 0; which < 5; which++) {
                Check.due("stepBells", new BellController().stepBells(which, 0), Check.MISSING);
                Check.due("patternStrokes", new BellController().patternStrokes(which), Check.MISSING);
                Check.due("play", new BellController().play(which, 0, 1), Check.MISSING);
                Check.due("weave", new BellController().weave(which, 0, 1, 0), Check.MISSING);
                Check.due("fastestTicks", new BellController().fastestTicks(which), Check.MISSING);
                Check.due("powerNeeded", new BellController().powerNeeded(which, 1), Check.MISSING);
            }
        });
    }

    private static void letters() {
        Doc.says("section 3", "Letters are a to l and stand for bells 0 to 11, whether these bells exist or not", () -> {
            for (int bell = 0; bell < 12; bell++) {
                reads("" + (char) ('a' + bell), 1 << bell);
            }
            for (char sign : new char[] {'`', 'm', 'z', 'A', 'L', '_', '\u00e1', '\u00ec', '\u0081'}) {
                bad("" + sign, 1, 0);
                bad("a" + sign, 1, 1);
            }
            BellController x = Check.quickBells(1);
            Check.load(x, 0, "l");
            Check.due("a bell that does not exist", x.stepBells(0, 0), 2048);
        });
        Doc.says("section 3", "a letter may be repeated, without any effect", () -> {
            reads("aa", 1);
            reads("abab", 3);
            reads("ll2", 2048, 0);
            reads("a".repeat(300), 1);
        });
    }

    private static void numbers() {
        Doc.says("section 3", "A number is written with one or two digits and has a value from 1 to 20", () -> {
            for (int value = 1; value <= 20; value++) {
                reads("a" + value, bellsAndRests(1, value));
                hasSteps("(a)" + value, value);
            }
            for (int value = 1; value <= 9; value++) {
                reads("a0" + value, bellsAndRests(1, value));
                hasSteps("(a)0" + value, value);
            }
            for (String number : new String[] {"0", "00", "21", "22", "30", "90", "99"}) {
                bad("a" + number, 2, 1);
                bad("-" + number, 2, 1);
                bad("(a)" + number, 2, 3);
            }
            bad("a100", 1, 3);
            bad("a200", 1, 3);
            bad("a020", 1, 3);
        });
        Doc.says("section 3", "2 for a number of one or two digits that is out of range (at its first digit", () -> {
            bad("a0", 2, 1);
            bad("a0 ", 2, 1);
            bad("a00", 2, 1);
            bad("a21", 2, 1);
            bad("a99", 2, 1);
            bad("-b-21", 2, 3);
            bad("  (a)2 (b)21c", 2, 10);
            hasSteps("a20", 20);
            reads("a01", 1);
        });
        Doc.says("section 3", "a third digit behind a number in the range is a character that cannot stand "
                + "at its place)", () -> {
            bad("a011", 1, 3);
            bad("a123", 1, 3);
            bad("a201", 1, 3);
            bad("-100", 1, 3);
            bad("(a)200", 1, 5);
            // where the first two digits are out of the range, the number is at fault
            bad("a001", 2, 1);
            bad("a210", 2, 1);
            bad("-999", 2, 1);
            bad("(a)000", 2, 3);
        });
    }

    private static void spaces() {
        Doc.says("section 3", "Any number of spaces may stand in front of each item, in front of each \")\" "
                + "and at the end of the text, but nowhere else", () -> {
            hasSteps(Towers.spaces(299) + "a", 1);
            hasSteps("a" + Towers.spaces(299), 1);
            hasSteps("(" + Towers.spaces(148) + "a" + Towers.spaces(148) + ")1", 1);
            reads(" a  - ( b )2 ", 1, 0, 2, 2);
            reads("a b", 1, 2);
            reads(" (  ( a )1  )2  ", 1, 1);
            bad("a 2", 1, 2);
            bad("- 2", 1, 2);
            bad("a1 0", 1, 3);
            bad("(a) 2", 1, 3);
            bad("(a)  2", 1, 3);
            bad("(a) ", 1, 3);
            bad("(a)2 0", 1, 5);
            bad("a\t", 1, 1);
            bad("\u00a0a", 1, 0);
        });
        Doc.says("section 3", "No space is necessary between two items", () -> {
            reads("a-", 1, 0);
            reads("-a", 0, 1);
            reads("--", 0, 0);
            reads("a1b", 1, 2);
            reads("a-(b)1(c)1d", 1, 0, 2, 4, 8);
            reads("-1-1a1(a)1", 0, 0, 1, 1);
        });
    }

    private static void items() {
        Doc.says("section 3", "Bells followed by a number n are one step with these bells and n - 1 rests", () -> {
            reads("ab1", 3);
            reads("ab2", 3, 0);
            reads("ab20", bellsAndRests(3, 20));
            reads("ab2c3", 3, 0, 4, 0, 0);
        });
        Doc.says("section 3", "without a number they are one step", () -> {
            reads("ab", 3);
            reads("ab c", 3, 4);
            reads("ab-c", 3, 0, 4);
        });
        Doc.says("section 3", "\"-\" followed by n is n rests", () -> {
            reads("-1", 0);
            reads("-2", 0, 0);
            reads("-20", new int[20]);
            reads("-2a", 0, 0, 1);
        });
        Doc.says("section 3", "without a number it is one rest", () -> {
            reads("-", 0);
            reads("-a-", 0, 1, 0);
        });
        Doc.says("section 3", "Items in parentheses followed by n are repeated n times in all", () -> {
            reads("(a-)1", 1, 0);
            reads("(a-)2", 1, 0, 1, 0);
            reads("(a)20", 1, 1, 1, 1, 1, 1, 1, 1, 1, 1, 1, 1, 1, 1, 1, 1, 1, 1, 1, 1);
            reads("b(a2)2c", 2, 1, 0, 1, 0, 4);
        });
        Doc.says("section 3", "Braces mean any number of repetitions, square brackets mean an optional part, "
                + "a bar separates alternatives, and quoted parts stand for themselves", () -> {
            bad("", 5, 0);
            reads("a", 1);
            hasSteps("a ".repeat(100), 100);
            reads("a", 1);
            reads("a1", 1);
            bad("a1-1|", 1, 4);
            bad("{a}", 1, 0);
            bad("[a]", 1, 0);
            bad("\"a\"", 1, 0);
        });
    }

    private static void groups() {
        Doc.says("section 3", "Parentheses may contain other parentheses, at most 3 deep", () -> {
            reads("(a)1", 1);
            reads("((a)1)2", 1, 1);
            reads("(((a)1)1)2", 1, 1);
            bad("((((a)1)1)1)1", 3, 3);
            reads("(((a)1(b)1)1(c)1)1(((d)1)1)1", 1, 2, 4, 8);
        });
        Doc.says("section 3", "3 for a \"(\" that would be inside three others", () -> {
            bad("((((", 3, 3);
            bad("((( (a)1)1)1)1", 3, 4);
            bad("(((a)1(b)1)1(((", 3, 14);
            bad("(a(b(c(d", 3, 6);
            bad("(((", 1, 3);
            bad("(((a)1)1)1((((", 3, 13);
        });
    }

    private static void errorCodes() {
        Doc.says("section 3", "Reading stops at the first error", () -> {
            bad("?a0", 1, 0);
            bad("a0?", 2, 1);
            bad("((((?", 3, 3);
            bad(HUNDRED + "a?", 4, 15);
            bad("()?", 5, 1);
            bad("a?()", 1, 1);
            readsAnew();
        });
        Doc.says("section 3", "The error codes are 1 for a character that cannot stand at its place, "
                + "or an unexpected end of the text", () -> {
            for (int sign = 0; sign < 256; sign++) {
                boolean starts = sign >= 'a' && sign <= 'l' || sign == '-' || sign == '(' || sign == ' ';
                if (!starts) {
                    bad("" + (char) sign, 1, 0);
                    bad("(" + (char) sign, sign == ')' ? 5 : 1, 1);
                }
            }
            bad("a)", 1, 1);
            bad("a2)", 1, 2);
            bad("(a)1)", 1, 4);
            bad("(a)a", 1, 3);
            bad("(a)-", 1, 3);
            bad("(a)(", 1, 3);
            bad("(a))", 1, 3);
            bad("(", 1, 1);
            bad("(a", 1, 2);
            bad("(a2", 1, 3);
            bad("(a)", 1, 3);
            bad("((a)2", 1, 5);
            bad("((a)2 ", 1, 6);
        });
        Doc.says("section 3", "5 for a text without items (at the end of the text), or parentheses without items "
                + "(at the \")\")", () -> {
            bad("", 5, 0);
            bad(" ", 5, 1);
            bad(Towers.spaces(300), 5, 300);
            bad("()", 5, 1);
            bad("()1", 5, 1);
            bad("( )1", 5, 2);
            bad("a(   )1", 5, 5);
            bad("((()1)1)1", 5, 3);
            bad("((a)1()1)1", 5, 6);
        });
    }

    /** What an error has left unfinished is forgotten by the next reading. */
    private static void readsAnew() {
        for (String broken : new String[] {"a(", "((a", "(((", "((((", "a b ((c?", "(a(b", HUNDRED + "a", "((-20)6", ""}) {
            BellController x = new BellController();
            Check.holds("an error in '" + broken + "'", Check.load(x, 0, broken) < -30);
            Check.due("behind '" + broken + "'", Check.load(x, 0, "(((a)1b)1)2"), 4);
            Check.due("stepBells(0, 3)", x.stepBells(0, 3), 2);
            Check.holds("an error in '" + broken + "'", Check.load(x, 0, broken) < -30);
            Check.due("behind '" + broken + "'", Check.load(x, 0, "a)"), -31);
            Check.due("patternErrorPosition()", x.patternErrorPosition(), 1);
            Check.due("behind an error", Check.load(x, 0, " "), -35);
            Check.due("patternErrorPosition()", x.patternErrorPosition(), 1);
        }
    }

    private static void lengthErrors() {
        Doc.says("section 3", "4 for an item with which the pattern would have more than 100 steps "
                + "(at the first character of the item", () -> {
            hasSteps("-20-20-20-20-19a", 100);
            bad(HUNDRED + "a", 4, 15);
            bad(HUNDRED + "   abc2", 4, 18);
            hasSteps("-20-20-20-20-19-1", 100);
            bad("-20-20-20-20-19-2", 4, 15);
            bad("-20-20-20-20ab20a", 4, 16);
            bad("-20-20-20-20-ab20", 4, 13);
            hasSteps(HUNDRED + "  ", 100);
        });
        Doc.says("section 3", "for an item in parentheses with its repetitions, at its \"(\"", () -> {
            hasSteps("(-20)5", 100);
            bad("(-20)6", 4, 0);
            hasSteps("a19-(-20)4", 100);
            bad("a20-(-20)4", 4, 4);
            bad(" a20- (-10-10)4", 4, 6);
            hasSteps("((-10)2)5", 100);
            bad("((-10)2)6", 4, 0);
            bad("(((-)20)2)3", 4, 0);
            hasSteps("(((-)20)5)1", 100);
        });
        Doc.says("section 3", "an item inside is reported first)", () -> {
            bad("(-20-20-20-20-20-)1", 4, 16);
            bad("(-20-20-20-20-20-)2", 4, 16);
            bad("((-20)6)20", 4, 1);
            bad("(a(b(-20)6)2)2", 4, 4);
            bad(HUNDRED + "(a)1", 4, 16);
            bad(HUNDRED + "((a)1)1", 4, 17);
            bad(HUNDRED + "()1", 5, 16);
        });
        Doc.says("section 3", "Once an item has been read, its number is examined first (2), then the number of "
                + "steps (4), and only then what stands behind the item (1)", () -> {
            bad(HUNDRED + "a0", 2, 16);
            bad(HUNDRED + "a21", 2, 16);
            bad(HUNDRED + "a2?", 4, 15);
            bad(HUNDRED + "a123", 4, 15);
            bad(HUNDRED + "a?", 4, 15);
            bad(HUNDRED + "a)", 4, 15);
            bad(HUNDRED + "?", 1, 15);
            bad("(-20)0", 2, 5);
            bad("(-20)21?", 2, 5);
            bad("(-20)6?", 4, 0);
            bad("(-20)123", 4, 0);
            bad("(-20)5?", 1, 6);
            bad("(-20)051", 1, 7);
        });
    }

    private static void positions() {
        Doc.says("section 3", "The error position is the index of the character in the text", () -> {
            bad("?", 1, 0);
            bad("a?", 1, 1);
            bad(Towers.spaces(299) + "?", 1, 299);
            bad(Towers.spaces(298) + "a0", 2, 299);
            bad(Towers.spaces(298) + "()", 5, 299);
        });
        Doc.says("section 3", "it is the length of the text at its end", () -> {
            bad("", 5, 0);
            bad("(", 1, 1);
            bad("(a)", 1, 3);
            bad(Towers.spaces(299) + "(", 1, 300);
            bad(Towers.spaces(297) + "(a)", 1, 300);
            bad(Towers.spaces(300), 5, 300);
            BellController x = new BellController();
            Check.append(x, "(a)2");
            Check.due("the text ends before the buffer", x.loadPattern(0, 3), -31);
            Check.due("patternErrorPosition()", x.patternErrorPosition(), 3);
        });
    }

    private static void promise21() {
        Doc.says("promise 21", "Appends 20 bytes to the text buffer: the four bytes of each argument in order, "
                + "the most significant byte first", () -> {
            BellController x = new BellController();
            Check.due("appendBytes", x.appendBytes(0x61206220, 0x63206420, 0x65206620, 0x67206820, 0x69206a20), 20);
            Check.due("loadPattern(0, 20)", x.loadPattern(0, 20), 10);
            for (int step = 0; step < 10; step++) {
                Check.due("stepBells(0, " + step + ")", x.stepBells(0, step), 1 << step);
            }
            int[] extremes = {Integer.MIN_VALUE, Integer.MAX_VALUE, -1, 0, 0x80808080};
            for (int extreme : extremes) {
                Check.due("appendBytes", x.appendBytes(0x61616161, 0x61616161, 0x61616161, 0x61616161, extreme), 20);
                Check.due("its bytes are no letters", x.loadPattern(0, 20), -31);
                Check.due("patternErrorPosition()", x.patternErrorPosition(), 16);
            }
            // 225 is 97, an a, with the sign bit of a byte
            x.appendBytes(0xe1616161, 0, 0, 0, 0);
            Check.due("a byte above 127", x.loadPattern(0, 4), -31);
            Check.due("patternErrorPosition()", x.patternErrorPosition(), 0);
        });
        Doc.says("promise 21", "FULL if the length would exceed 300", () -> {
            BellController x = new BellController();
            for (int length = 20; length <= 300; length += 20) {
                Check.due("appendBytes", x.appendBytes(0x20202020, 0x20202020, 0x20202020, 0x20202020, 0x20202061), length);
            }
            Check.due("appendBytes to 300", x.appendBytes(0x61616161, 0, 0, 0, 0), Check.FULL);
            Check.due("loadPattern(0, 301)", x.loadPattern(0, 301), Check.BAD_VALUE);
            Check.due("appendBytes to 300", x.appendBytes(0, 0, 0, 0, 0), Check.FULL);
            Check.due("loadPattern(0, 300)", x.loadPattern(0, 300), 15);
            Check.due("appendBytes to none", x.appendBytes(0, 0, 0, 0, 0), 20);
        });
        for (int argument = 0; argument < 5; argument++) {
            int place = argument;
            String[] names = {"- `a`: first four bytes", "- `b`: next four bytes", "- `c`: next four bytes",
                "- `d`: next four bytes", "- `e`: last four bytes"};
            Doc.says("promise 21", names[place], () -> {
                BellController x = new BellController();
                int[] words = {0x61616161, 0x61616161, 0x61616161, 0x61616161, 0x61616161};
                words[place] = 0x62636465;
                x.appendBytes(words[0], words[1], words[2], words[3], words[4]);
                Check.due("its bells come", x.loadPattern(0, 4 * place + 4), 1);
                Check.due("its bells", x.stepBells(0, 0), place == 0 ? 30 : 31);
            });
        }
    }

    private static void promise22() {
        Doc.says("promise 22", "- `which`: 0 for the tune, 1 to 4 for a chime", () -> Edges.range("which", 0, 4,
                Check.NO_SUCH, BellController::new, (x, value) -> {
                    Check.append(x, "a");
                    return x.loadPattern(value, 1);
                }));
        Doc.says("promise 22", "- `n`: number of bytes, 0 to the length of the buffer", () -> {
            for (int length = 0; length <= 300; length += 20) {
                BellController x = new BellController();
                Check.append(x, "a".repeat(length));
                Check.due("a byte more than " + length, x.loadPattern(0, length + 1), Check.BAD_VALUE);
                Check.due("all " + length, x.loadPattern(0, length), length == 0 ? -35 : 1);
            }
            BellController x = new BellController();
            Check.append(x, "ab");
            Check.due("loadPattern(0, 0)", x.loadPattern(0, 0), -35);
            Check.append(x, "ab");
            Check.due("loadPattern(0, 1)", x.loadPattern(0, 1), 1);
            Check.due("the first byte alone", x.stepBells(0, 0), 1);
        });
        Doc.says("promise 22", "Reads the first n bytes of the text buffer as a pattern (section 3)", () -> {
            BellController x = new BellController();
            Check.append(x, "ab?");
            Check.due("the first two", x.loadPattern(0, 2), 1);
            Check.append(x, "ab?");
            Check.due("the first three", x.loadPattern(0, 3), -31);
        });
        Doc.says("promise 22", "NO_SUCH if which is out of range", () -> {
            for (int value : new int[] {-1, 5, Integer.MIN_VALUE, Integer.MAX_VALUE}) {
                Check.due("with an empty buffer", new BellController().loadPattern(value, 0), Check.NO_SUCH);
            }
        });
        Doc.says("promise 22", "BAD_VALUE if n is out of range", () -> {
            for (int value : new int[] {-1, 1, 20, 300, Integer.MIN_VALUE, Integer.MAX_VALUE}) {
                Check.due("with an empty buffer", new BellController().loadPattern(4, value), Check.BAD_VALUE);
            }
            for (int value : new int[] {-1, 21, 300, Integer.MIN_VALUE, Integer.MAX_VALUE}) {
                BellController x = new BellController();
                Check.append(x, "a");
                Check.due("with 20 bytes", x.loadPattern(4, value), Check.BAD_VALUE);
            }
        });
        Doc.says("promise 22", "-30 - error code if the text has an error", () -> {
            bad("?", 1, 0);
            bad("a0", 2, 1);
            bad("((((", 3, 3);
            bad("(-20)6", 4, 0);
            bad("()", 5, 1);
        });
    }

    private static void promise22Buffer() {
        Doc.says("promise 22", "The buffer is empty afterwards, unless NO_SUCH or BAD_VALUE is returned", () -> {
            BellController x = new BellController();
            Check.append(x, "a");
            Check.due("loadPattern(5, 1)", x.loadPattern(5, 1), Check.NO_SUCH);
            Check.due("loadPattern(0, 21)", x.loadPattern(0, 21), Check.BAD_VALUE);
            Check.due("loadPattern(0, -1)", x.loadPattern(0, -1), Check.BAD_VALUE);
            Check.due("it is kept", x.appendBytes(0, 0, 0, 0, 0), 40);
            Check.due("loadPattern(0, 1)", x.loadPattern(0, 1), 1);
            Check.due("it is empty", x.loadPattern(0, 1), Check.BAD_VALUE);
            Check.append(x, "?");
            Check.due("an error", x.loadPattern(0, 1), -31);
            Check.due("it is empty", x.loadPattern(0, 1), Check.BAD_VALUE);
            Check.append(x, "a");
            Check.due("no byte of it", x.loadPattern(0, 0), -35);
            Check.due("it is empty", x.appendBytes(0, 0, 0, 0, 0), 20);
        });
        Doc.says("promise 22", "The pattern replaces the tune or the chime", () -> {
            BellController x = new BellController();
            Check.due("a long pattern", Check.load(x, 2, HUNDRED), 100);
            Check.due("a short one", Check.load(x, 2, "b"), 1);
            Check.due("stepBells(2, 0)", x.stepBells(2, 0), 2);
            Check.due("stepBells(2, 1)", x.stepBells(2, 1), Check.NONE);
            Check.due("the tune", x.stepBells(0, 0), Check.MISSING);
        });
        Doc.says("promise 22", "in case of an error the previous one remains", () -> {
            BellController x = new BellController();
            Check.load(x, 2, "a b c");
            for (String text : new String[] {"?", "d0", "((((", "d(-20)6", "d()", "", "d d d d?"}) {
                Check.holds("an error", Check.load(x, 2, text) < -30);
                Check.due("stepBells(2, 0)", x.stepBells(2, 0), 1);
                Check.due("stepBells(2, 2)", x.stepBells(2, 2), 4);
                Check.due("stepBells(2, 3)", x.stepBells(2, 3), Check.NONE);
            }
            Check.holds("an error", Check.load(x, 3, "d?") < -30);
            Check.due("none remains none", x.stepBells(3, 0), Check.MISSING);
        });
    }

    /** Calls of loadPattern that are refused leave the latest error as it is. */
    private static void refused(BellController x) {
        Check.due("loadPattern(-1, 0)", x.loadPattern(-1, 0), Check.NO_SUCH);
        Check.due("loadPattern(5, 0)", x.loadPattern(5, 0), Check.NO_SUCH);
        Check.due("loadPattern(0, -1)", x.loadPattern(0, -1), Check.BAD_VALUE);
        Check.due("loadPattern(0, 1)", x.loadPattern(0, 1), Check.BAD_VALUE);
    }

    private static void promises23And24() {
        Doc.says("promise 23", "Returns the error code of the latest call of loadPattern that did not return "
                + "NO_SUCH or BAD_VALUE", () -> {
            BellController x = new BellController();
            Check.load(x, 0, "?");
            refused(x);
            Check.due("patternError()", x.patternError(), 1);
            Check.load(x, 1, "a0");
            Check.due("patternError()", x.patternError(), 2);
        });
        Doc.says("promise 23", "0 if there was no error or no such call", () -> {
            BellController x = new BellController();
            Check.due("no call", x.patternError(), 0);
            refused(x);
            Check.due("refused calls", x.patternError(), 0);
            Check.load(x, 0, "?");
            Check.due("an error", x.patternError(), 1);
            Check.load(x, 0, "a");
            Check.due("no error", x.patternError(), 0);
            refused(x);
            Check.due("no error", x.patternError(), 0);
        });
        Doc.says("promise 24", "Returns the error position of the latest call of loadPattern that did not return "
                + "NO_SUCH or BAD_VALUE", () -> {
            BellController x = new BellController();
            Check.load(x, 0, "ab?");
            refused(x);
            Check.due("patternErrorPosition()", x.patternErrorPosition(), 2);
            Check.load(x, 1, "?");
            Check.due("patternErrorPosition()", x.patternErrorPosition(), 0);
        });
        Doc.says("promise 24", "NONE if there was no error or no such call", () -> {
            BellController x = new BellController();
            Check.due("no call", x.patternErrorPosition(), Check.NONE);
            refused(x);
            Check.due("refused calls", x.patternErrorPosition(), Check.NONE);
            Check.load(x, 0, "a?");
            Check.due("an error", x.patternErrorPosition(), 1);
            Check.load(x, 0, "a");
            Check.due("no error", x.patternErrorPosition(), Check.NONE);
            refused(x);
            Check.due("no error", x.patternErrorPosition(), Check.NONE);
        });
    }

    private static void promise25() {
        Doc.says("promise 25", "- `which`: 0 for the tune, 1 to 4 for a chime", () -> Edges.patterns("stepBells",
                (x, value) -> x.stepBells(value, 0)));
        Doc.says("promise 25", "- `step`: number of the step, from 0", () -> {
            BellController x = new BellController();
            Check.load(x, 0, "a-b");
            Check.due("stepBells(0, 0)", x.stepBells(0, 0), 1);
            Check.due("stepBells(0, 1)", x.stepBells(0, 1), 0);
            Check.due("stepBells(0, 2)", x.stepBells(0, 2), 2);
        });
        Doc.says("promise 25", "NO_SUCH if which is out of range", () -> {
            for (int value : new int[] {-1, 5, Integer.MIN_VALUE, Integer.MAX_VALUE}) {
                Check.due("stepBells", Edges.fivePatterns().stepBells(value, 0), Check.NO_SUCH);
                Check.due("without patterns", new BellController().stepBells(value, -1), Check.NO_SUCH);
            }
        });
        Doc.says("promise 25", "MISSING if the pattern is missing", () -> Edges.missing("stepBells",
                (x, value) -> x.stepBells(value, 0)));
        Doc.says("promise 25", "NONE if it has no such step", () -> {
            BellController x = new BellController();
            Check.load(x, 0, HUNDRED);
            Check.load(x, 1, "a");
            Check.due("stepBells(0, 99)", x.stepBells(0, 99), 0);
            for (int step : new int[] {-1, 100, 101, Integer.MIN_VALUE, Integer.MAX_VALUE}) {
                Check.due("of 100 steps", x.stepBells(0, step), Check.NONE);
            }
            for (int step : new int[] {-1, 1, 2, 99, 100, Integer.MIN_VALUE, Integer.MAX_VALUE}) {
                Check.due("of one step", x.stepBells(1, step), Check.NONE);
            }
        });
    }
}
