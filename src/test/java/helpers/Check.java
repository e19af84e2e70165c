import java.util.NoSuchElementException;

/** Compares answers with those due, prints the unlike ones, and ends the test. */
final class Check {
    private static int count = 0;
    private static int wrong = 0;

    private Check() {
    }

    static void same(String what, long got, long due) {
        count++;
        if (got != due) {
            wrong++;
            System.out.println(what + ": answered " + got + ", due is " + due);
        }
    }

    static void yes(String what, boolean got) {
        same(what, got ? 1 : 0, 1);
    }

    /** The answer is due, and the call was not refused. */
    static void given(LentMasks x, String what, long got, long due) {
        same(what, got, due);
        same(what + ", trouble", x.trouble(), 0);
    }

    static void done(LentMasks x, String what, boolean got) {
        given(x, what, got ? 1 : 0, 1);
    }

    /** The call answers what a refused one does, and tells this trouble. */
    static void refused(LentMasks x, String what, long got, long due, int trouble) {
        same(what, got, due);
        same(what + ", trouble", x.trouble(), trouble);
    }

    static void refused(LentMasks x, String what, boolean got, int trouble) {
        refused(x, what, got ? 1 : 0, 0, trouble);
    }

    static void noLed(LentMasks x, int day, int i) {
        boolean thrown = false;
        try {
            x.led(day, i);
        } catch (NoSuchElementException e) {
            thrown = true;
        }
        yes("led(" + day + ", " + i + ") throws", thrown);
    }

    static void end() {
        System.out.println(count + " answers looked at, " + wrong + " wrong");
        if (wrong != 0 || count == 0) {
            System.exit(1);
        }
    }
}
