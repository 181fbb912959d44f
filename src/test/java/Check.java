import java.util.NoSuchElementException;
import java.util.function.LongSupplier;

/** What the tests share: answers held against those that are due, and texts put on the tape. */
final class Check {
    static final long NO_SUCH = Long.MIN_VALUE + 1;
    static final long BAD_ARGUMENT = Long.MIN_VALUE + 2;
    private static int wrong = 0;
    private static int asked = 0;
    private static String about = "";

    private Check() { }

    /** What stands ahead of every answer that is not as due, from here on. */
    static void about(String text) {
        about = text;
    }

    static void same(String what, long got, long due) {
        asked++;
        if (got != due) {
            wrong++;
            if (wrong <= 40) {
                System.out.println(about + what + " answered " + name(got) + ", due is " + name(due));
            }
        }
    }

    static void yes(String what, boolean got) {
        same(what, got ? 1 : 0, 1);
    }

    static void no(String what, boolean got) {
        same(what, got ? 1 : 0, 0);
    }

    static void noSuch(String what, LongSupplier call) {
        same(what, answer(call), NO_SUCH);
    }

    static void badArgument(String what, LongSupplier call) {
        same(what, answer(call), BAD_ARGUMENT);
    }

    /** The answer, or a number that stands for the exception; any other exception ends the test. */
    static long answer(LongSupplier call) {
        try {
            return call.getAsLong();
        } catch (NoSuchElementException e) {
            return NO_SUCH;
        } catch (IllegalArgumentException e) {
            if (e.getClass() != IllegalArgumentException.class) {
                throw e;
            }
            return BAD_ARGUMENT;
        }
    }

    static long of(boolean b) {
        return b ? 1 : 0;
    }

    /** Puts a text on an empty tape, blanks behind it: its length. */
    static int feed(MapRun x, String text) {
        for (int i = 0; i < text.length(); i += 20) {
            x.feed(number(text, i), number(text, i + 4), number(text, i + 8), number(text, i + 12),
                    number(text, i + 16));
        }
        return text.length();
    }

    static int number(String text, int at) {
        int n = 0;
        for (int i = at; i < at + 4; i++) {
            n = n << 8 | (i < text.length() ? text.charAt(i) & 255 : 32);
        }
        return n;
    }

    static int rules(MapRun x, String text) {
        return x.rules(feed(x, text));
    }

    static int track(MapRun x, int runner, String text) {
        return x.track(runner, feed(x, text));
    }

    static int wrong() {
        return wrong;
    }

    static int asked() {
        return asked;
    }

    static void end() {
        System.out.println(asked + " answers, " + wrong + " not as due");
        if (wrong != 0) {
            System.exit(1);
        }
    }

    private static String name(long n) {
        return n == NO_SUCH ? "NoSuchElementException" : n == BAD_ARGUMENT ? "IllegalArgumentException" : "" + n;
    }
}
