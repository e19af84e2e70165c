/** Promises 6 to 15: fits, wearers, promises, credit, debt, gain, breaks. */
public final class DaysTest {
    private static final String KINDS = "town days 2"
            + ";mask a plain size 5 credit 0;mask b child size 5 credit 0;mask c foreign size 5 credit 0"
            + ";mask d double size 5 credit 0;mask e king size 5 credit 0"
            + ";person p size 5 honour 60;person q size 4 honour 59 child;person r size 6 honour 99"
            + ";person s size 7 honour 99 child;person t size 3 honour 0;person u size 5 honour 59 child";

    private static final String LONG = "town days 5;work w,v"
            + ";mask m plain size 3 credit 50;mask n double size 3 credit 95"
            + ";person p size 3 honour 5 does w;person q size 3 honour 5 does w,v"
            + ";promise m w on 3 worth 60 fine 9 effort 1"
            + ";promise m w on 1 worth 1 fine 70 effort 2"
            + ";promise m v on 1 worth 1 fine 10 effort 3"
            + ";promise m w on 1 worth 40 fine 5 effort 4"
            + ";promise n v on 2 worth 3 fine 2 effort 9"
            + ";promise n w on 2 worth 3 fine 2 effort 1"
            + ";promise n w on 2 worth 3 fine 90 effort 1"
            + ";promise n w on 2 worth 50 fine 6 effort 1"
            + ";promise m w on 5 worth 2 fine 11 effort 99"
            + ";lent m to p from 1 until 1;lent m to q from 3 until 3;lent n to p from 2 until 4"
            + ";break p on 5";

    public static void main(String[] args) {
        fits();
        wearers();
        promisesOfTheMarket();
        promisesByLines();
        credit();
        debtAndGain();
        breaking();
        fullRooms();
        Check.end();
    }

    private static void fits() {
        LentMasks x = Town.of(KINDS);
        int[][] due = {
            {1, 1, 1, 0, 0, 1},
            {0, 1, 0, 0, 0, 1},
            {1, 1, 1, 1, 1, 1},
            {1, 0, 0, 0, 0, 1},
            {1, 0, 1, 0, 0, 0}};
        for (int m = 0; m < 5; m++) {
            for (int p = 0; p < 6; p++) {
                Check.given(x, "fits(" + m + ", " + p + ")", x.fits(m, p), due[m][p]);
            }
        }
        Check.refused(x, "fits(5, 0)", x.fits(5, 0), -1, 1);
        Check.refused(x, "fits(-1, 0)", x.fits(-1, 0), -1, 1);
        Check.refused(x, "fits(0, 6)", x.fits(0, 6), -1, 1);
        Check.refused(x, "fits(0, -1)", x.fits(0, Integer.MIN_VALUE), -1, 1);
    }

    private static void wearers() {
        LentMasks x = Town.of(Town.MARKET);
        int[] ox = {0, 0, -2, -2};
        int[] cat = {-2, 1, 1, -2};
        for (int day = 1; day <= 4; day++) {
            Check.given(x, "wearer(0, " + day + ")", x.wearer(0, day), ox[day - 1]);
            Check.given(x, "wearer(1, " + day + ")", x.wearer(1, day), cat[day - 1]);
            Check.given(x, "worn(0, " + day + ")", x.worn(0, day), ox[day - 1] < 0 ? -2 : 0);
            Check.given(x, "worn(1, " + day + ")", x.worn(1, day), cat[day - 1] < 0 ? -2 : 1);
        }
        Check.refused(x, "wearer(3, 1)", x.wearer(3, 1), -1, 1);
        Check.refused(x, "wearer(0, 0)", x.wearer(0, 0), -1, 2);
        Check.refused(x, "wearer(0, 5)", x.wearer(0, 5), -1, 2);
        Check.refused(x, "wearer(-1, 5)", x.wearer(-1, 5), -1, 1);
        Check.refused(x, "worn(3, 1)", x.worn(3, 1), -1, 1);
        Check.refused(x, "worn(0, 0)", x.worn(0, 0), -1, 2);
        Check.refused(x, "worn(0, 5)", x.worn(0, 5), -1, 2);
        Check.refused(x, "worn(3, 5)", x.worn(3, 5), -1, 1);
    }

    private static void promisesOfTheMarket() {
        LentMasks x = Town.of(Town.MARKET);
        int[] owes = {0, 0, 1, 1, 1, -2};
        int[] done = {1, 0, 1, 1, 0, 0};
        for (int i = 0; i < 6; i++) {
            Check.given(x, "owes(" + i + ")", x.owes(i), owes[i]);
            Check.given(x, "done(" + i + ")", x.done(i), done[i]);
        }
        Check.refused(x, "owes(6)", x.owes(6), -1, 1);
        Check.refused(x, "owes(-1)", x.owes(-1), -1, 1);
        Check.refused(x, "done(6)", x.done(6), -1, 1);
        Check.refused(x, "done(-2)", x.done(-2), -1, 1);
        Check.given(x, "guild", x.guild(), 30);
        Check.done(x, "bob breaks on 2", x.breaking(1, 2, true));
        Check.given(x, "nothing is done by who breaks", x.done(2) + x.done(3) + x.done(4), 0);
        Check.given(x, "who breaks still owes", x.owes(2), 1);
        Check.given(x, "debt of who breaks", x.debt(1, 2), 6);
    }

    private static void promisesByLines() {
        LentMasks x = Town.of(LONG);
        int[] done = {1, 1, 0, 0, 0, 1, 1, 0, 0};
        int[] owes = {1, 0, 0, 0, 0, 0, 0, 0, -2};
        for (int i = 0; i < 9; i++) {
            Check.given(x, "done(" + i + ") in LONG", x.done(i), done[i]);
            Check.given(x, "owes(" + i + ") in LONG", x.owes(i), owes[i]);
        }
        x.pass(1, 2, 1);
        int[] passed = {1, 1, 0, 0, 1, 1, 0, 0, 0};
        for (int i = 0; i < 9; i++) {
            if (i != 0) {
                Check.same("done(" + i + ") in LONG, as before", x.done(i), done[i]);
            }
        }
        Check.same("q has m on 3, so n can't be passed on to it", x.size(8), 0);
        x.give(1, 3);
        Check.done(x, "n ends ahead of 3, then it can", x.pass(1, 2, 1));
        for (int i = 0; i < 9; i++) {
            Check.given(x, "done(" + i + ") in LONG, passed on", x.done(i), passed[i]);
        }
    }

    private static void credit() {
        LentMasks x = Town.of(LONG);
        Check.given(x, "credit as told", x.credit(0, 0), 50);
        Check.given(x, "credit by lines of a day", x.credit(0, 1), 50 + 1 - 10 - 5);
        Check.given(x, "credit of a day without promises", x.credit(0, 2), 36);
        Check.given(x, "credit by days, not lines", x.credit(0, 3), 96);
        Check.given(x, "credit less by what the guild owes", x.credit(0, 5), 85);
        Check.given(x, "99 at most, on the way", x.credit(1, 2), 93);
        Check.given(x, "credit behind the last day", x.credit(1, 5), 93);
        x.breaking(0, 1, true);
        Check.given(x, "0 at least, on the way", x.credit(0, 1), 0);
        Check.given(x, "and up again", x.credit(0, 3), 60);
        x.breaking(0, 2, true);
        Check.given(x, "0 at least", x.credit(1, 2), 0);
        Check.refused(x, "credit(2, 1)", x.credit(2, 1), -1, 1);
        Check.refused(x, "credit(0, -1)", x.credit(0, -1), -1, 2);
        Check.refused(x, "credit(0, 6)", x.credit(0, 6), -1, 2);
        Check.refused(x, "credit(-1, 6)", x.credit(-1, 6), -1, 1);
    }

    private static void debtAndGain() {
        LentMasks x = Town.of(LONG);
        Check.given(x, "debt(0, 0)", x.debt(0, 0), 0);
        Check.given(x, "debt(0, 1)", x.debt(0, 1), 15);
        Check.given(x, "debt(0, 2)", x.debt(0, 2), 23);
        Check.given(x, "debt(0, 5)", x.debt(0, 5), 23);
        Check.given(x, "debt(1, 5)", x.debt(1, 5), 0);
        Check.given(x, "guild", x.guild(), 11);
        Check.given(x, "gain(0, 0)", x.gain(0, 0), 0);
        Check.given(x, "gain(0, 1)", x.gain(0, 1), 1 - 2 - 15);
        Check.given(x, "gain(0, 2)", x.gain(0, 2), -16 + 2 + 2 - 8);
        Check.given(x, "gain(1, 2)", x.gain(1, 2), 0);
        Check.given(x, "gain(1, 3)", x.gain(1, 3), 59);
        Check.given(x, "gain(1, 5)", x.gain(1, 5), 59);
        Check.refused(x, "debt(2, 1)", x.debt(2, 1), -1, 1);
        Check.refused(x, "debt(0, -1)", x.debt(0, -1), -1, 2);
        Check.refused(x, "debt(0, 6)", x.debt(0, 6), -1, 2);
        Check.refused(x, "gain(2, 1)", x.gain(2, 1), -10000, 1);
        Check.refused(x, "gain(0, -1)", x.gain(0, -1), -10000, 2);
        Check.refused(x, "gain(0, 6)", x.gain(0, 6), -10000, 2);
        LentMasks none = new LentMasks();
        Check.refused(none, "guild without a book", none.guild(), -1, 1);
    }

    private static void fullRooms() {
        StringBuilder text = new StringBuilder("town days 12;work w");
        for (char c = 'a'; c <= 'f'; c++) {
            text.append(";mask ").append(c).append(" plain size 1 credit 50");
            text.append(";person ").append((char) (c + 10)).append(" size 1 honour 0 does w");
        }
        for (int day = 1; day <= 12; day++) {
            text.append(";promise f w on ").append(day).append(" worth 2 fine 3 effort 1");
        }
        LentMasks x = Town.of(text.toString());
        Check.given(x, "twelve promises of the guild", x.guild(), 36);
        Check.given(x, "credit", x.credit(5, 12), 50 - 36);
        Check.done(x, "the last person in the last mask", x.lend(5, 5, 2, 12));
        Check.given(x, "done(11)", x.done(11), 1);
        Check.given(x, "gain", x.gain(5, 12), 11);
        Check.given(x, "credit", x.credit(5, 12), 50 - 3 + 22);
        Check.done(x, "it breaks", x.breaking(5, 12, true));
        Check.given(x, "debt", x.debt(5, 12), 3);
        Check.given(x, "guild", x.guild(), 3);
        Check.given(x, "terms", x.terms(), 1);
        Check.given(x, "value", x.value(12), 2);
        Check.given(x, "worth", x.worth(), 24);
        Check.given(x, "needed", x.needed(12, 5), 0);
        Check.given(x, "ask", x.ask(5, 5, 1, 12), 36);
        Check.given(x, "real", x.real(12), -3);
    }

    private static void breaking() {
        LentMasks x = Town.of(Town.MARKET);
        for (int day = 1; day <= 4; day++) {
            Check.given(x, "breaks(1, " + day + ")", x.breaks(1, day), day == 3 ? 1 : 0);
            Check.given(x, "breaks(0, " + day + ")", x.breaks(0, day), 0);
        }
        Check.refused(x, "breaks(3, 1)", x.breaks(3, 1), -1, 1);
        Check.refused(x, "breaks(0, 0)", x.breaks(0, 0), -1, 2);
        Check.refused(x, "breaks(0, 5)", x.breaks(0, 5), -1, 2);
    }
}
