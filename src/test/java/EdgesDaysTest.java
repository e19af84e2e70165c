/** Promises 6 to 15 and part II of the document's terms, sentence by sentence: sizes, days, credit at their bounds. */
public final class EdgesDaysTest {
    private static final int DAYS = 4;

    public static void main(String[] args) {
        plainFits();
        childFits();
        foreignFits();
        doubleFits();
        kingFits();
        fitsRefused();
        maskOnOneHead();
        wearerFromFirstToLastDay();
        wearerRefused();
        wornFromFirstToLastDay();
        wornRefused();
        owesTheGuild();
        owesRefused();
        doneByWhoDoesItsWork();
        doneByWhoDoesNotBreakThatDay();
        doneIsTheFirst();
        doneIsTheSecondIfDouble();
        doneRefused();
        creditAsTold();
        creditIs99AtMost();
        creditIs0AtLeast();
        creditByDaysThenLines();
        creditRefused();
        debtBehindADay();
        debtRefused();
        gainBehindADay();
        gainRefused();
        guildOfAll();
        breaksOnADay();
        breaksRefused();
        twelvePromises();
        twentyLendings();
        Check.end();
    }

    private static int fits(String kind, int size, String person) {
        LentMasks x = Town.of("town days 1;mask m " + kind + " size " + size + " credit 0;person p size " + person);
        int answer = x.fits(0, 0);
        Check.same("trouble of fits", x.trouble(), 0);
        Check.same("it is lent if it fits", as(x.lend(0, 0, 1, 1)), answer);
        return answer;
    }

    private static int as(boolean is) {
        return is ? 1 : 0;
    }

    /** FITS: plain: sizes are no more than 1 apart. */
    private static void plainFits() {
        for (int mask = 1; mask <= 9; mask++) {
            for (int person = 1; person <= 9; person++) {
                boolean near = mask - person <= 1 && person - mask <= 1;
                Check.same("plain " + mask + " " + person, fits("plain", mask, person + " honour 0"), as(near));
            }
        }
    }

    /** Child: likewise, a child alone. */
    private static void childFits() {
        for (int person = 1; person <= 9; person++) {
            Check.same("child 5 " + person, fits("child", 5, person + " honour 0 child"), as(person >= 4 && person <= 6));
            Check.same("child 5 " + person + ", no child", fits("child", 5, person + " honour 99"), 0);
        }
        Check.same("a child in a plain one", fits("plain", 5, "5 honour 0 child"), 1);
    }

    /** Foreign: any. */
    private static void foreignFits() {
        for (int mask = 1; mask <= 9; mask += 8) {
            for (int person = 1; person <= 9; person++) {
                Check.same("foreign " + mask + " " + person, fits("foreign", mask, person + " honour 0"), 1);
            }
        }
    }

    /** Double: sizes alike. */
    private static void doubleFits() {
        for (int mask = 1; mask <= 9; mask++) {
            for (int person = 1; person <= 9; person++) {
                Check.same("double " + mask + " " + person, fits("double", mask, person + " honour 99"), as(mask == person));
            }
        }
    }

    /** King: as plain, honour 60 or more. */
    private static void kingFits() {
        int[] honours = {0, 59, 60, 61, 99};
        for (int person = 1; person <= 9; person++) {
            for (int honour : honours) {
                boolean near = person >= 4 && person <= 6;
                Check.same("king 5 " + person + " " + honour, fits("king", 5, person + " honour " + honour),
                        as(near && honour >= 60));
            }
        }
    }

    /** Promise 6: NONE: 1. */
    private static void fitsRefused() {
        LentMasks x = Town.of(Town.MARKET);
        Edges.refused(x, "fits, mask", Edges.off(3), n -> x.fits(n, 0), -1, 1);
        Edges.refused(x, "fits, person", Edges.off(3), n -> x.fits(0, n), -1, 1);
        Edges.given(x, "the last of both", () -> x.fits(2, 2), 0);
        Edges.given(x, "the first of both", () -> x.fits(0, 0), 1);
    }

    /** A mask is on one head or on its peg each day, a person has one mask at most each day. */
    private static void maskOnOneHead() {
        LentMasks x = Town.of("town days 3;mask m foreign size 1 credit 0;mask n foreign size 1 credit 0"
                + ";person p size 1 honour 0;person q size 1 honour 0;lent m to p from 2 until 2");
        Edges.kept(x, "on one head", 5, () -> x.lend(0, 1, 2, 2));
        Edges.kept(x, "one mask at most", 5, () -> x.lend(1, 0, 2, 2));
        Edges.kept(x, "once is enough", 5, () -> x.lend(0, 0, 2, 2));
        Edges.done(x, "another head in another mask", () -> x.lend(1, 1, 2, 2));
        Edges.done(x, "the same head on another day", () -> x.lend(1, 0, 1, 1));
        Edges.done(x, "the same mask on another day", () -> x.lend(0, 1, 3, 3));
        Check.noLed(x, 2, 0);
        Check.same("on its peg", x.led(1, 0), 0);
    }

    /** Promise 7: Who wears a mask on a DAY; -2 nobody. */
    private static void wearerFromFirstToLastDay() {
        LentMasks x = Town.of("town days 20;mask m plain size 1 credit 0;mask n plain size 1 credit 0"
                + ";person p size 1 honour 0;person q size 1 honour 0"
                + ";lent n to q from 1 until 1;lent n to p from 2 until 5;lent n to q from 7 until 20");
        for (int day = 1; day <= 20; day++) {
            int d = day;
            int due = day == 1 || day >= 7 ? 1 : day <= 5 ? 0 : -2;
            Edges.given(x, "wearer on " + day, () -> x.wearer(1, d), due);
            Edges.given(x, "the other mask", () -> x.wearer(0, d), -2);
        }
    }

    /** NONE: 1; 2. */
    private static void wearerRefused() {
        LentMasks x = Town.of(Town.MARKET);
        Edges.refused(x, "wearer, mask", Edges.off(3), n -> x.wearer(n, 1), -1, 1);
        Edges.refused(x, "wearer, day", Edges.offDays(DAYS), n -> x.wearer(0, n), -1, 2);
        Edges.refused(x, "wearer, both", Edges.offDays(DAYS), n -> x.wearer(3, n), -1, 1);
        Edges.given(x, "the last of both", () -> x.wearer(2, 4), -2);
    }

    /** Promise 8: What a person wears on a DAY; -2 nothing. */
    private static void wornFromFirstToLastDay() {
        LentMasks x = Town.of("town days 20;mask m plain size 1 credit 0;mask n plain size 1 credit 0"
                + ";person p size 1 honour 0;person q size 1 honour 0"
                + ";lent n to q from 1 until 1;lent m to q from 2 until 5;lent n to q from 7 until 20");
        for (int day = 1; day <= 20; day++) {
            int d = day;
            int due = day == 1 || day >= 7 ? 1 : day <= 5 ? 0 : -2;
            Edges.given(x, "worn on " + day, () -> x.worn(1, d), due);
            Edges.given(x, "the other person", () -> x.worn(0, d), -2);
        }
    }

    /** NONE: 1; 2. */
    private static void wornRefused() {
        LentMasks x = Town.of(Town.MARKET);
        Edges.refused(x, "worn, person", Edges.off(3), n -> x.worn(n, 1), -1, 1);
        Edges.refused(x, "worn, day", Edges.offDays(DAYS), n -> x.worn(0, n), -1, 2);
        Edges.refused(x, "worn, both", Edges.offDays(DAYS), n -> x.worn(3, n), -1, 1);
        Edges.given(x, "the last of both", () -> x.worn(2, 4), -2);
    }

    private static final String ONE = "town days 3;work a,b;mask m plain size 1 credit 50"
            + ";person p size 1 honour 0 does a;person q size 1 honour 0 does b;person r size 1 honour 0";

    /** A PROMISE is of who wears its mask on its DAY (OWES; the guild, if nobody does): promise 9, -2 the guild. */
    private static void owesTheGuild() {
        String promise = ";promise m a on 2 worth 0 fine 0 effort 0;lent m to q from ";
        String[] days = {"1 until 1", "3 until 3", "2 until 2", "1 until 2", "2 until 3", "1 until 3"};
        for (int i = 0; i < days.length; i++) {
            LentMasks x = Town.of(ONE + promise + days[i]);
            Edges.given(x, "owes, lent from " + days[i], () -> x.owes(0), i < 2 ? -2 : 1);
        }
    }

    /** Promise 9: NONE: 1. */
    private static void owesRefused() {
        LentMasks x = Town.of(Town.MARKET);
        Edges.refused(x, "owes", Edges.off(6), x::owes, -1, 1);
        Edges.given(x, "the last", () -> x.owes(5), -2);
        LentMasks none = Town.of(ONE);
        Edges.refused(none, "owes without promises", Edges.off(0), none::owes, -1, 1);
    }

    /** It is DONE if that does its WORK. */
    private static void doneByWhoDoesItsWork() {
        String lent = ";promise m a on 2 worth 0 fine 0 effort 0;promise m b on 3 worth 0 fine 0 effort 0;lent m to ";
        String[] persons = {"p", "q", "r"};
        for (int i = 0; i < 3; i++) {
            LentMasks x = Town.of(ONE + lent + persons[i] + " from 1 until 3");
            Edges.given(x, "a by " + persons[i], () -> x.done(0), i == 0 ? 1 : 0);
            Edges.given(x, "b by " + persons[i], () -> x.done(1), i == 1 ? 1 : 0);
        }
        LentMasks x = Town.of(ONE + ";promise m a on 2 worth 0 fine 0 effort 0;lent m to p from 3 until 3");
        Edges.given(x, "by nobody", () -> x.done(0), 0);
        // The fifth work of the sixth person in the sixth mask.
        LentMasks last = Town.of("town days 1;work a,b,c,d,e" + ";mask ma foreign size 1 credit 0;mask mb foreign size 1 credit 0"
                + ";mask mc foreign size 1 credit 0;mask md foreign size 1 credit 0;mask me foreign size 1 credit 0"
                + ";mask mf foreign size 1 credit 0;person pa size 1 honour 0;person pb size 1 honour 0"
                + ";person pc size 1 honour 0;person pd size 1 honour 0;person pe size 1 honour 0"
                + ";person pf size 1 honour 0 does e;promise mf e on 1 worth 1 fine 2 effort 0;lent mf to pf from 1 until 1");
        Edges.given(last, "the last of all", () -> last.done(0), 1);
        Edges.given(last, "owes", () -> last.owes(0), 5);
        Edges.given(last, "gain", () -> last.gain(5, 1), 1);
        Edges.given(last, "plan", () -> last.plan(1, 5), 5);
        Edges.given(last, "needed", () -> last.needed(1, 5), 3);
        Edges.given(last, "works", () -> last.person(5, 4), 16);
    }

    /** Doesn't break that day. */
    private static void doneByWhoDoesNotBreakThatDay() {
        String promise = ONE + ";promise m a on 2 worth 0 fine 0 effort 0;lent m to p from 1 until 3";
        int[] due = {1, 0, 1};
        for (int day = 1; day <= 3; day++) {
            LentMasks x = Town.of(promise + ";break p on " + day);
            Edges.given(x, "p breaks on " + day, () -> x.done(0), due[day - 1]);
            LentMasks y = Town.of(promise + ";break q on " + day);
            Edges.given(y, "q breaks on " + day, () -> y.done(0), 1);
        }
    }

    private static void doneAre(String what, String text, int... due) {
        LentMasks x = Town.of(text);
        for (int i = 0; i < due.length; i++) {
            int n = i;
            Edges.given(x, what + ": done(" + i + ")", () -> x.done(n), due[i]);
        }
    }

    private static String promises(String mask, String works, int... days) {
        StringBuilder s = new StringBuilder();
        for (int i = 0; i < works.length(); i++) {
            s.append(";promise ").append(mask).append(' ').append(works.charAt(i)).append(" on ").append(days[i % days.length])
                    .append(" worth 1 fine 1 effort 1");
        }
        return s.toString();
    }

    /** And of the PROMISES of this mask on this DAY that would be done so, it is the first by LINES. */
    private static void doneIsTheFirst() {
        String lent = ";lent m to p from 1 until 3";
        doneAre("one of one", ONE + promises("m", "a", 1) + lent, 1);
        doneAre("one of two", ONE + promises("m", "aa", 1) + lent, 1, 0);
        doneAre("one of twelve", ONE + promises("m", "aaaaaaaaaaaa", 1) + lent, 1, 0, 0, 0, 0, 0, 0, 0, 0, 0, 0, 0);
        doneAre("one it can't do isn't ahead", ONE + promises("m", "bba", 1) + lent, 0, 0, 1);
        doneAre("one a day", ONE + promises("m", "aaaaaa", 3, 1, 2) + lent, 1, 1, 1, 0, 0, 0);
        doneAre("one a mask", ONE + ";mask n plain size 1 credit 0" + promises("m", "a", 1) + promises("n", "aa", 1)
                + promises("m", "a", 1) + ";lent n to p from 1 until 1", 0, 1, 0, 0);
        doneAre("none if it breaks", ONE + promises("m", "aa", 1) + lent + ";break p on 1", 0, 0);
    }

    /** Or second, if the mask is double. */
    private static void doneIsTheSecondIfDouble() {
        String two = ONE.replace("plain", "double").replace("q size 1 honour 0 does b", "q size 1 honour 0 does b,a");
        String lent = ";lent m to p from 1 until 3";
        doneAre("one of one", two + promises("m", "a", 1) + lent, 1);
        doneAre("two of two", two + promises("m", "aa", 1) + lent, 1, 1);
        doneAre("two of three", two + promises("m", "aaa", 1) + lent, 1, 1, 0);
        doneAre("two of twelve", two + promises("m", "aaaaaaaaaaaa", 1) + lent, 1, 1, 0, 0, 0, 0, 0, 0, 0, 0, 0, 0);
        doneAre("one it can't do isn't ahead", two + promises("m", "babaa", 1) + lent, 0, 1, 0, 1, 0);
        doneAre("of either work", two + promises("m", "aba", 1) + ";lent m to q from 1 until 1", 1, 1, 0);
        doneAre("two a day", two + promises("m", "aaaaaa", 2, 3) + lent, 1, 1, 1, 1, 0, 0);
    }

    /** Promise 10: NONE: 1. */
    private static void doneRefused() {
        LentMasks x = Town.of(Town.MARKET);
        Edges.refused(x, "done", Edges.off(6), x::done, -1, 1);
        Edges.given(x, "the last", () -> x.done(5), 0);
        LentMasks none = Town.of(ONE);
        Edges.refused(none, "done without promises", Edges.off(0), none::done, -1, 1);
    }

    private static LentMasks creditTown(int credit, String worths, String fines) {
        StringBuilder s = new StringBuilder("town days 12;work a;mask m plain size 1 credit " + credit
                + ";person p size 1 honour 0 does a");
        String[] worth = worths.split(" ");
        String[] fine = fines.split(" ");
        for (int i = 0; i < worth.length; i++) {
            s.append(";promise m a on ").append(i + 1).append(" worth ").append(worth[i]).append(" fine ").append(fine[i])
                    .append(" effort 0");
        }
        return Town.of(s.toString());
    }

    private static void creditIs(LentMasks x, String what, int... due) {
        for (int day = 0; day < due.length; day++) {
            int d = day;
            Edges.given(x, what + ": credit behind " + day, () -> x.credit(0, d), due[day]);
        }
    }

    /** CREDIT of a mask behind a DAY: as told; promise 11: (0: as told). */
    private static void creditAsTold() {
        for (int credit : new int[] {0, 1, 50, 98, 99}) {
            LentMasks x = creditTown(credit, "0", "0");
            creditIs(x, "told " + credit, credit, credit, credit);
            Edges.given(x, "behind the last day", () -> x.credit(0, 12), credit);
        }
    }

    /** Worth more for each that was DONE, 99 at most. */
    private static void creditIs99AtMost() {
        LentMasks x = creditTown(97, "1 1 1 0 99 0", "0 0 0 0 0 2");
        x.lend(0, 0, 1, 5);
        creditIs(x, "up", 97, 98, 99, 99, 99, 99, 97);
        LentMasks y = creditTown(0, "99 99", "0 0");
        y.lend(0, 0, 1, 2);
        creditIs(y, "99 at once", 0, 99, 99);
        LentMasks z = creditTown(1, "98 1", "0 99");
        z.lend(0, 0, 1, 1);
        creditIs(z, "99 just", 1, 99, 0);
        LentMasks w = creditTown(1, "99 1", "0 99");
        w.lend(0, 0, 1, 1);
        creditIs(w, "nothing is kept of what is beyond", 1, 99, 0);
    }

    /** Fine less for each BROKEN, 0 at least. */
    private static void creditIs0AtLeast() {
        LentMasks x = creditTown(2, "0 0 0 0 0 3", "1 1 1 0 99 0");
        x.lend(0, 0, 6, 6);
        creditIs(x, "down", 2, 1, 0, 0, 0, 0, 3);
        LentMasks y = creditTown(99, "0 0", "98 99");
        creditIs(y, "down at once", 99, 1, 0);
        LentMasks z = creditTown(99, "0 7", "99 0");
        z.lend(0, 0, 2, 2);
        creditIs(z, "0 just", 99, 0, 7);
    }

    /** Then by DAYS, LINES. */
    private static void creditByDaysThenLines() {
        String town = "town days 2;work a,b;mask m plain size 1 credit 95;person p size 1 honour 0 does a"
                + ";lent m to p from 1 until 2";
        String up = ";promise m a on 1 worth 9 fine 0 effort 0";
        String down = ";promise m b on 1 worth 0 fine 9 effort 0";
        LentMasks upDown = Town.of(town + up + down);
        creditIs(upDown, "up, then down", 95, 90, 90);
        LentMasks downUp = Town.of(town + down + up);
        creditIs(downUp, "down, then up", 95, 95, 95);
        LentMasks later = Town.of(town + down.replace("on 1", "on 2") + up);
        creditIs(later, "the later day is told first", 95, 99, 90);
    }

    /** NONE: 1; 2. */
    private static void creditRefused() {
        LentMasks x = Town.of(Town.MARKET);
        Edges.refused(x, "credit, mask", Edges.off(3), n -> x.credit(n, 1), -1, 1);
        Edges.refused(x, "credit, day", Edges.offDaysFromNone(DAYS), n -> x.credit(0, n), -1, 2);
        Edges.refused(x, "credit, both", Edges.offDaysFromNone(DAYS), n -> x.credit(3, n), -1, 1);
        Edges.given(x, "the last of both", () -> x.credit(2, 4), 60);
        Edges.given(x, "the first of both", () -> x.credit(0, 0), 50);
    }

    private static final String OWING = ONE + ";promise m a on 1 worth 20 fine 1 effort 5"
            + ";promise m a on 1 worth 0 fine 2 effort 0;promise m b on 2 worth 0 fine 4 effort 0"
            + ";promise m a on 3 worth 0 fine 99 effort 99;promise m b on 3 worth 9 fine 16 effort 0"
            + ";lent m to p from 1 until 3;break p on 3";

    /** Promise 12: DEBT behind a DAY (0: none). */
    private static void debtBehindADay() {
        LentMasks x = Town.of(OWING);
        int[] due = {0, 2, 6, 121};
        for (int day = 0; day <= 3; day++) {
            int d = day;
            Edges.given(x, "debt behind " + day, () -> x.debt(0, d), due[day]);
            Edges.given(x, "of one that owes nothing", () -> x.debt(2, d), 0);
        }
        x.give(0, 3);
        Edges.given(x, "the guild's isn't its own", () -> x.debt(0, 3), 6);
        LentMasks most = Town.of(ONE + promises("m", "bbbbbbbbbbbb", 1).replace("fine 1", "fine 99")
                + ";lent m to p from 1 until 1");
        Edges.given(most, "the most", () -> most.debt(0, 1), 1188);
        Edges.given(most, "behind no day", () -> most.debt(0, 0), 0);
    }

    /** NONE: 1; 2. */
    private static void debtRefused() {
        LentMasks x = Town.of(Town.MARKET);
        Edges.refused(x, "debt, person", Edges.off(3), n -> x.debt(n, 1), -1, 1);
        Edges.refused(x, "debt, day", Edges.offDaysFromNone(DAYS), n -> x.debt(0, n), -1, 2);
        Edges.refused(x, "debt, both", Edges.offDaysFromNone(DAYS), n -> x.debt(3, n), -1, 1);
    }

    /** Promise 13: GAIN: worth less effort of all that it did, less DEBT. */
    private static void gainBehindADay() {
        LentMasks x = Town.of(OWING);
        int[] due = {0, 15 - 2, 15 - 6, 15 - 121};
        int[] unbroken = {0, 15 - 2, 15 - 6, 15 - 99 - 22};
        for (int day = 0; day <= 3; day++) {
            int d = day;
            Edges.given(x, "gain behind " + day, () -> x.gain(0, d), due[day]);
            Edges.given(x, "of one that owes nothing", () -> x.gain(2, d), 0);
        }
        x.breaking(0, 3, false);
        for (int day = 0; day <= 3; day++) {
            int d = day;
            Edges.given(x, "gain behind " + day + ", unbroken", () -> x.gain(0, d), unbroken[day]);
        }
        LentMasks least = Town.of(ONE + promises("m", "bbbbbbbbbbbb", 1).replace("fine 1", "fine 99")
                + ";lent m to p from 1 until 1");
        Edges.given(least, "the least", () -> least.gain(0, 1), -1188);
    }

    /** -10,000: 1; 2. */
    private static void gainRefused() {
        LentMasks x = Town.of(Town.MARKET);
        Edges.refused(x, "gain, person", Edges.off(3), n -> x.gain(n, 1), -10000, 1);
        Edges.refused(x, "gain, day", Edges.offDaysFromNone(DAYS), n -> x.gain(0, n), -10000, 2);
        Edges.refused(x, "gain, both", Edges.offDaysFromNone(DAYS), n -> x.gain(3, n), -10000, 1);
    }

    /** Promise 14: Fines of all BROKEN that the guild OWES. NONE: 1 (no BOOK): EdgesBookTest. */
    private static void guildOfAll() {
        LentMasks none = Town.of(ONE);
        Edges.given(none, "without promises", none::guild, 0);
        LentMasks x = Town.of(OWING);
        Edges.given(x, "all are owed", x::guild, 0);
        x.give(0, 3);
        Edges.given(x, "the last day's", x::guild, 115);
        x.give(0, 1);
        Edges.given(x, "all of them", x::guild, 122);
    }

    /** As many promises as there is room for, in each call that looks at them. */
    private static void twelvePromises() {
        LentMasks x = Town.of(ONE + promises("m", "aaaaaaaaaaaa", 1, 2, 3) + ";lent m to p from 1 until 3;break p on 2");
        Edges.given(x, "owes the last", () -> x.owes(11), 0);
        Edges.given(x, "done the third", () -> x.done(2), 1);
        Edges.given(x, "done the last", () -> x.done(11), 0);
        Edges.given(x, "credit", () -> x.credit(0, 3), 50 + 1 - 3 - 4 + 1 - 3);
        Edges.given(x, "debt", () -> x.debt(0, 3), 10);
        Edges.given(x, "gain", () -> x.gain(0, 3), -10);
        Edges.given(x, "guild", x::guild, 0);
        Edges.given(x, "real", () -> x.real(3), -2);
        Edges.given(x, "value", () -> x.value(3), -2);
        Edges.given(x, "plan", () -> x.plan(3, 0), 0);
        Edges.given(x, "worth", x::worth, -6);
        Edges.given(x, "terms", x::terms, 1);
        Edges.given(x, "ask", () -> x.ask(0, 0, 1, 3), 12);
    }

    /** As many lendings as there is room for, in each call that looks at them. */
    private static void twentyLendings() {
        LentMasks x = Town.of("town days 20;work a;mask m plain size 1 credit 50;mask n plain size 1 credit 0"
                + ";person p size 1 honour 0 does a;person q size 1 honour 0;promise m a on 20 worth 9 fine 5 effort 1");
        for (int day = 1; day <= 20; day++) {
            int d = day;
            Edges.done(x, "lend on " + day, () -> x.lend(0, 0, d, d));
        }
        Edges.given(x, "wearer", () -> x.wearer(0, 20), 0);
        Edges.given(x, "wearer of the other", () -> x.wearer(1, 20), -2);
        Edges.given(x, "worn", () -> x.worn(0, 20), 0);
        Edges.given(x, "worn by the other", () -> x.worn(1, 20), -2);
        Edges.given(x, "credit", () -> x.credit(0, 20), 59);
        Edges.given(x, "terms", x::terms, 1);
        Edges.given(x, "wearers", () -> x.wearers(20), 1);
        Check.same("led", x.led(20, 0), 1);
        Edges.done(x, "the last is given back", () -> x.give(0, 20));
        Edges.given(x, "wearer", () -> x.wearer(0, 20), -2);
        Edges.given(x, "worn", () -> x.worn(0, 20), -2);
        Edges.done(x, "and lent once more", () -> x.lend(0, 0, 20, 20));
        Edges.done(x, "given back again", () -> x.give(0, 20));
        Edges.done(x, "and lent to the other", () -> x.lend(0, 1, 20, 20));
        Edges.given(x, "worn by the other", () -> x.worn(1, 20), 0);
    }

    /** Promise 15: Whether a person breaks on a DAY: 1, 0. */
    private static void breaksOnADay() {
        LentMasks x = Town.of("town days 20;mask m plain size 1 credit 0;person p size 1 honour 0;person q size 1 honour 0"
                + ";break q on 1;break q on 20;break q on 16");
        for (int day = 1; day <= 20; day++) {
            int d = day;
            Edges.given(x, "breaks on " + day, () -> x.breaks(1, d), day == 1 || day == 16 || day == 20 ? 1 : 0);
            Edges.given(x, "the other one", () -> x.breaks(0, d), 0);
        }
    }

    /** NONE: 1; 2. */
    private static void breaksRefused() {
        LentMasks x = Town.of(Town.MARKET);
        Edges.refused(x, "breaks, person", Edges.off(3), n -> x.breaks(n, 1), -1, 1);
        Edges.refused(x, "breaks, day", Edges.offDays(DAYS), n -> x.breaks(0, n), -1, 2);
        Edges.refused(x, "breaks, both", Edges.offDays(DAYS), n -> x.breaks(3, n), -1, 1);
        Edges.given(x, "the last of both", () -> x.breaks(2, 4), 0);
    }
}
