import java.util.Arrays;
import java.util.function.BooleanSupplier;
import java.util.function.IntFunction;
import java.util.function.IntSupplier;
import java.util.function.IntUnaryOperator;
import java.util.stream.IntStream;

/** Numbers that lie just beside those that there are, and calls on which they are tried. */
final class Edges {
    // Some of them would come round again, if they were shifted by or cut to a byte.
    private static final int[] FAR = {Integer.MIN_VALUE, -256, -32, -2, -1, 32, 33, 64, 256, 257, Integer.MAX_VALUE};

    private Edges() {
    }

    private static int[] farAnd(int... near) {
        return IntStream.concat(Arrays.stream(near), Arrays.stream(FAR)).toArray();
    }

    /** Beside 0 up to count - 1. */
    static int[] off(int count) {
        return farAnd(count, count + 1);
    }

    /** Beside 1 up to days. */
    static int[] offDays(int days) {
        return farAnd(0, days + 1, days + 2);
    }

    /** Beside 0 up to days. */
    static int[] offDaysFromNone(int days) {
        return farAnd(days + 1, days + 2);
    }

    /** The call is refused with each of these; a call that isn't refused comes ahead, so no trouble is left over. */
    static void refused(LentMasks x, String what, int[] with, IntUnaryOperator call, int due, int trouble) {
        for (int n : with) {
            if (x.size(7) > 0) {
                x.guild();
            } else {
                x.undo();
            }
            Check.refused(x, what + " with " + n, call.applyAsInt(n), due, trouble);
        }
    }

    /** The answer is due and there is no trouble, though the call ahead had some. */
    static void given(LentMasks x, String what, IntSupplier call, int due) {
        x.fits(-1, -1);
        Check.given(x, what, call.getAsInt(), due);
    }

    static void done(LentMasks x, String what, BooleanSupplier act) {
        given(x, what, () -> act.getAsBoolean() ? 1 : 0, 1);
    }

    /** The act is refused, and all is as before. */
    static void kept(LentMasks x, String what, int trouble, BooleanSupplier act) {
        String before = state(x);
        Check.refused(x, what, act.getAsBoolean(), trouble);
        Check.yes(what + ": all is as before", before.equals(state(x)));
    }

    static void kept(LentMasks x, String what, int trouble, int[] with, IntFunction<Boolean> act) {
        for (int n : with) {
            kept(x, what + " with " + n, trouble, () -> act.apply(n));
        }
    }

    /** All that acts can change; the trouble is 0 behind it, if there is a book. */
    static String state(LentMasks x) {
        StringBuilder s = new StringBuilder();
        for (int what = 0; what <= 11; what++) {
            s.append(x.size(what)).append(' ');
        }
        s.append(lendings(x)).append(" breaks");
        for (int p = 0; p < x.size(1); p++) {
            for (int day = 1; day <= x.size(7); day++) {
                s.append(x.breaks(p, day) == 1 ? " " + p + "/" + day : "");
            }
        }
        return s.toString();
    }

    /** As mask:person:from-until, in their order. */
    static String lendings(LentMasks x) {
        StringBuilder s = new StringBuilder();
        for (int i = 0; i < x.size(4); i++) {
            s.append(i == 0 ? "" : " ").append(x.lending(i, 0)).append(':').append(x.lending(i, 1)).append(':')
                    .append(x.lending(i, 2)).append('-').append(x.lending(i, 3));
        }
        return s.toString();
    }

    static void lent(LentMasks x, String what, String due) {
        String got = lendings(x);
        Check.yes(what + ": lendings are " + got + ", due are " + due, got.equals(due));
    }
}
