/** Promises 38 to 43: lending, mask, person, led, size, trouble. */
public final class SeenTest {
    private static final String TEXT = "town days 7;work a,b,c"
            + ";mask m plain size 1 credit 1;mask n child size 2 credit 1;mask o foreign size 3 credit 1"
            + ";mask d double size 4 credit 1;mask k king size 9 credit 1"
            + ";person p size 1 honour 0;person q size 9 honour 99 child habit 4 does c,a"
            + ";person r size 5 honour 60 habit 1 does b"
            + ";promise m a on 7 worth 1 fine 1 effort 1"
            + ";lent k to q from 2 until 3;lent m to p from 3 until 7"
            + ";seen m on 1 hour 1 size 1;seen m on 2 hour 1 size 1;letter m to n on 1";

    public static void main(String[] args) {
        lendings();
        masks();
        persons();
        led();
        sizes();
        trouble();
        Check.end();
    }

    private static void lendings() {
        LentMasks x = Town.of(TEXT);
        int[][] due = {{0, 0, 3, 7}, {4, 1, 2, 3}};
        for (int i = 0; i < 2; i++) {
            for (int what = 0; what < 4; what++) {
                Check.given(x, "lending(" + i + ", " + what + ")", x.lending(i, what), due[i][what]);
            }
        }
        Check.refused(x, "lending(2, 0)", x.lending(2, 0), -1, 1);
        Check.refused(x, "lending(-1, 0)", x.lending(-1, 0), -1, 1);
        Check.refused(x, "lending(0, 4)", x.lending(0, 4), -1, 1);
        Check.refused(x, "lending(0, -1)", x.lending(0, -1), -1, 1);
    }

    private static void masks() {
        LentMasks x = Town.of(TEXT);
        int[] sizes = {1, 2, 3, 4, 9};
        for (int m = 0; m < 5; m++) {
            Check.given(x, "mask(" + m + ", 0)", x.mask(m, 0), m);
            Check.given(x, "mask(" + m + ", 1)", x.mask(m, 1), sizes[m]);
        }
        Check.refused(x, "mask(5, 0)", x.mask(5, 0), -1, 1);
        Check.refused(x, "mask(-1, 0)", x.mask(-1, 0), -1, 1);
        Check.refused(x, "mask(0, 2)", x.mask(0, 2), -1, 1);
        Check.refused(x, "mask(0, -1)", x.mask(0, -1), -1, 1);
    }

    private static void persons() {
        LentMasks x = Town.of(TEXT);
        int[][] due = {{1, 0, 0, 0, 0}, {9, 99, 1, 4, 5}, {5, 60, 0, 1, 2}};
        for (int p = 0; p < 3; p++) {
            for (int what = 0; what < 5; what++) {
                Check.given(x, "person(" + p + ", " + what + ")", x.person(p, what), due[p][what]);
            }
        }
        Check.refused(x, "person(3, 0)", x.person(3, 0), -1, 1);
        Check.refused(x, "person(-1, 0)", x.person(-1, 0), -1, 1);
        Check.refused(x, "person(0, 5)", x.person(0, 5), -1, 1);
        Check.refused(x, "person(0, -1)", x.person(0, -1), -1, 1);
        LentMasks again = Town.of(TEXT);
        Town.book(again, "town days 1;mask m plain size 1 credit 1;person a size 1 honour 1;person b size 2 honour 1");
        Town.book(again, "town days 1;mask m plain size 1 credit 1;person a size 1 honour 1;person b size 2 honour 1");
        Check.given(again, "nothing of a former book's person", again.person(1, 2) + again.person(1, 3)
                + again.person(1, 4), 0);
    }

    private static void led() {
        LentMasks x = Town.of(TEXT);
        int[] due = {1, 2, 3};
        for (int i = 0; i < 3; i++) {
            Check.same("led(3, " + i + ")", x.led(3, i), due[i]);
        }
        Check.noLed(x, 3, 3);
        Check.noLed(x, 3, -1);
        Check.noLed(x, 0, 0);
        Check.noLed(x, 8, 0);
        Check.same("led(1, 4)", x.led(1, 4), 4);
        Check.noLed(x, 1, 5);
        Check.same("led(2, 0)", x.led(2, 0), 0);
        x.lend(1, 0, 0, 0);
        Check.same("trouble", x.trouble(), 2);
        x.led(1, 0);
        Check.noLed(x, 1, 9);
        Check.same("led leaves trouble alone", x.trouble(), 2);
    }

    private static void sizes() {
        LentMasks x = Town.of(TEXT);
        x.give(0, 5);
        x.give(0, 4);
        x.undo();
        x.image();
        x.feed(0, 0, 0, 0, 0);
        int[] due = {5, 3, 3, 1, 2, 2, 1, 7, 1, 1, 1, 20};
        for (int what = 0; what < due.length; what++) {
            Check.same("size(" + what + ")", x.size(what), due[what]);
        }
        Check.same("size(-1)", x.size(-1), -1);
        Check.same("size(12)", x.size(12), -1);
        x.lend(9, 0, 0, 0);
        x.size(12);
        Check.same("size leaves trouble alone", x.trouble(), 1);
    }

    private static void trouble() {
        LentMasks x = Town.of(TEXT);
        Check.refused(x, "1 there is none such", x.wearer(9, 1), -1, 1);
        Check.refused(x, "2 a number", x.wearer(0, 9), -1, 2);
        x.image();
        x.image();
        x.image();
        Check.refused(x, "3 no room", x.image(), -1, 3);
        Check.refused(x, "4 a fault", x.book(0), -1, 4);
        Check.refused(x, "5 not so", x.lend(4, 0, 1, 1), 5);
        Check.refused(x, "6 there is none", x.undo(), 6);
        x.trouble();
        x.fault();
        x.where();
        Check.same("trouble stays", x.trouble(), 6);
        Check.given(x, "0 it wasn't", x.wearer(0, 1), -2);
    }
}
