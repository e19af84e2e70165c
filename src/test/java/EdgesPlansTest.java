/** Promises 16 to 22, sentence by sentence: plans that are as good as others, terms and fees at their bounds. */
public final class EdgesPlansTest {
    private static final int DAYS = 4;
    private static final String TWO = "town days 2;work a,b;mask m foreign size 1 credit 0;mask n foreign size 1 credit 0";

    public static void main(String[] args) {
        valueOfADayWithoutPromises();
        valueMostAndLeast();
        valueHasNobodyBreaking();
        valueRefused();
        planForWhomItFits();
        nobodyWithTwo();
        pegAheadOfPersons();
        firstByMasks();
        personsByLines();
        planRefused();
        neededWithoutAPerson();
        neededRefused();
        worthOfAllDays();
        realAsLentAndBroken();
        realRefused();
        termsOfNothing();
        termsFrom0To99();
        termsBeyondTheFine();
        termsOnTheLastDayAlone();
        termsOfWhoCouldDoIt();
        askUpwards();
        askOnTheseDays();
        askRefused();
        Check.end();
    }

    private static String promise(String what, int day, int worth, int fine) {
        return ";promise " + what + " on " + day + " worth " + worth + " fine " + fine + " effort 0";
    }

    private static void plans(LentMasks x, String what, int day, int value, int... due) {
        Edges.given(x, what + ": value", () -> x.value(day), value);
        for (int mask = 0; mask < due.length; mask++) {
            int m = mask;
            Edges.given(x, what + ": plan of mask " + mask, () -> x.plan(day, m), due[mask]);
        }
    }

    private static void valueOfADayWithoutPromises() {
        LentMasks x = Town.of(TWO + ";person p size 1 honour 0 does a" + promise("m a", 1, 5, 0));
        plans(x, "a day with one", 1, 5, 0, -2);
        plans(x, "a day without", 2, 0, -2, -2);
        LentMasks none = Town.of(TWO + ";person p size 1 honour 0 does a");
        plans(none, "no promises at all", 2, 0, -2, -2);
        Edges.given(none, "their worth", none::worth, 0);
    }

    private static void valueMostAndLeast() {
        StringBuilder nobody = new StringBuilder(TWO + ";person p size 1 honour 0");
        StringBuilder twice = new StringBuilder(TWO.replace("foreign", "double")
                + ";person p size 1 honour 0 does a;person q size 1 honour 0 does a");
        for (int i = 0; i < 12; i++) {
            nobody.append(promise("m a", 1, 99, 99));
            twice.append(promise(i < 2 ? "m a" : "n a", 1, 99, 0));
        }
        LentMasks least = Town.of(nobody.toString());
        plans(least, "nobody does it", 1, -1188, -2, -2);
        Edges.given(least, "worth", least::worth, -1188);
        LentMasks most = Town.of(twice.toString());
        plans(most, "two of each", 1, 396, 0, 1);
        Edges.given(most, "needed", () -> most.needed(1, 0), 198);
    }

    /** Nobody breaking. */
    private static void valueHasNobodyBreaking() {
        LentMasks x = Town.of(TWO + ";person p size 1 honour 0 does a" + promise("m a", 1, 5, 3) + ";break p on 1");
        plans(x, "p breaks", 1, 5, 0, -2);
        x.lend(1, 0, 1, 1);
        plans(x, "p has another mask", 1, 5, 0, -2);
        Edges.given(x, "but it isn't so", () -> x.real(1), -3);
    }

    /** Promise 16: -10,000: 1 (no BOOK); 2. */
    private static void valueRefused() {
        LentMasks x = Town.of(Town.MARKET);
        Edges.refused(x, "value", Edges.offDays(DAYS), x::value, -10000, 2);
        Edges.given(x, "the first day", () -> x.value(1), 10);
        Edges.given(x, "the last day", () -> x.value(4), 0);
    }

    /** For each mask a person whom it FITS, or its peg. */
    private static void planForWhomItFits() {
        String mask = "town days 1;work a;mask m king size 5 credit 0;person p size 5 honour 59 does a"
                + ";person q size 7 honour 99 does a;person r size 5 honour 99";
        LentMasks none = Town.of(mask + promise("m a", 1, 9, 4));
        plans(none, "it fits none that does the work", 1, -4, -2);
        LentMasks one = Town.of(mask + ";person s size 6 honour 60 does a" + promise("m a", 1, 9, 4));
        plans(one, "it fits one just", 1, 9, 3);
    }

    /** Nobody with two. */
    private static void nobodyWithTwo() {
        LentMasks x = Town.of(TWO + ";person p size 1 honour 0 does a,b" + promise("m a", 1, 9, 0) + promise("n b", 1, 8, 0)
                + promise("m a", 2, 3, 4) + promise("n b", 2, 3, 5));
        plans(x, "the dearer one", 1, 9, 0, -2);
        plans(x, "with what is lost otherwise", 2, 3 - 4, -2, 0);
        LentMasks six = Town.of(sixOfEach());
        plans(six, "six in six", 1, 6, 0, 1, 2, 3, 4, 5);
    }

    private static String sixOfEach() {
        StringBuilder s = new StringBuilder("town days 1;work a");
        for (char c = 'a'; c <= 'f'; c++) {
            s.append(";mask m").append(c).append(" foreign size 1 credit 0;person p").append(c)
                    .append(" size 1 honour 0 does a").append(";promise m").append(c)
                    .append(" a on 1 worth 1 fine 0 effort 0");
        }
        return s.toString();
    }

    /** Of like ones the first by masks, the peg ahead of persons. */
    private static void pegAheadOfPersons() {
        String town = TWO + ";person p size 1 honour 0 does a";
        plans(Town.of(town + promise("m a", 1, 0, 0)), "worth as much as its fine", 1, 0, -2, -2);
        plans(Town.of(town + promise("m a", 1, 1, 0)), "one more", 1, 1, 0, -2);
        plans(Town.of(town + promise("m a", 1, 0, 1)), "one less lost", 1, 0, 0, -2);
        plans(Town.of(town + promise("m b", 1, 9, 9)), "a work that p doesn't do", 1, -9, -2, -2);
    }

    private static void firstByMasks() {
        String town = TWO + ";person p size 1 honour 0 does a";
        LentMasks x = Town.of(town + promise("m a", 1, 5, 0) + promise("n a", 1, 5, 0));
        plans(x, "the first mask's peg goes ahead", 1, 5, -2, 0);
        LentMasks y = Town.of(town + promise("m a", 1, 6, 0) + promise("n a", 1, 5, 0));
        plans(y, "but not if it is less", 1, 6, 0, -2);
        LentMasks z = Town.of(town + promise("m a", 1, 5, 0) + promise("n a", 1, 4, 1));
        plans(z, "fines count as worth does", 1, 4, -2, 0);
    }

    /** These by LINES. */
    private static void personsByLines() {
        String town = TWO + ";person p size 1 honour 0 does a;person q size 1 honour 0 does a,b;person r size 1 honour 0 does b";
        plans(Town.of(town + promise("m a", 1, 5, 0)), "p or q", 1, 5, 0, -2);
        plans(Town.of(town + promise("m b", 1, 5, 0)), "q or r", 1, 5, 1, -2);
        plans(Town.of(town + promise("m a", 1, 5, 0) + promise("n a", 1, 5, 0)), "p and q", 1, 10, 0, 1);
        plans(Town.of(town + promise("m b", 1, 5, 0) + promise("n a", 1, 5, 0)), "q and p, or r and p, or r and q", 1, 10, 1, 0);
        plans(Town.of(town + promise("m a", 1, 5, 0) + promise("n b", 1, 5, 0)), "p and q, or p and r, or q and r", 1, 10, 0, 1);
    }

    /** Promise 17: Whom PLAN gives a mask; -2 its peg. NONE: 1; 2. */
    private static void planRefused() {
        LentMasks x = Town.of(Town.MARKET);
        Edges.refused(x, "plan, mask", Edges.off(3), n -> x.plan(1, n), -1, 1);
        Edges.refused(x, "plan, day", Edges.offDays(DAYS), n -> x.plan(n, 0), -1, 2);
        Edges.refused(x, "plan, both", Edges.offDays(DAYS), n -> x.plan(n, 3), -1, 1);
        Edges.given(x, "the last of both", () -> x.plan(4, 2), -2);
    }

    /** Promise 18: NEEDED: how much less VALUE is without a person. */
    private static void neededWithoutAPerson() {
        String town = TWO + ";person p size 1 honour 0 does a;person q size 1 honour 0 does a;person r size 1 honour 0";
        LentMasks one = Town.of(town + promise("m a", 1, 5, 2));
        Edges.given(one, "another one does as well", () -> one.needed(1, 0), 0);
        Edges.given(one, "and so the other way", () -> one.needed(1, 1), 0);
        Edges.given(one, "nothing is done by r", () -> one.needed(1, 2), 0);
        LentMasks both = Town.of(town + promise("m a", 1, 5, 2) + promise("n a", 1, 4, 1));
        Edges.given(both, "the lesser one is lost", () -> both.needed(1, 0), 5);
        Edges.given(both, "whoever it is", () -> both.needed(1, 1), 5);
        LentMasks alone = Town.of("town days 1;work a;mask m foreign size 1 credit 0;person p size 1 honour 0 does a"
                + promise("m a", 1, 99, 99));
        Edges.given(alone, "the only one", () -> alone.needed(1, 0), 198);
        LentMasks six = Town.of(sixOfEach());
        for (int person = 0; person < 6; person++) {
            int p = person;
            Edges.given(six, "one of six", () -> six.needed(1, p), 1);
        }
    }

    /** NONE: 1; 2. */
    private static void neededRefused() {
        LentMasks x = Town.of(Town.MARKET);
        Edges.refused(x, "needed, person", Edges.off(3), n -> x.needed(1, n), -1, 1);
        Edges.refused(x, "needed, day", Edges.offDays(DAYS), n -> x.needed(n, 0), -1, 2);
        Edges.refused(x, "needed, both", Edges.offDays(DAYS), n -> x.needed(n, 3), -1, 1);
        Edges.given(x, "the last of both", () -> x.needed(4, 2), 0);
    }

    /** Promise 19: WORTH: VALUES of all DAYS together; -100,000: 1 (no BOOK): EdgesBookTest. */
    private static void worthOfAllDays() {
        String town = "town days 20;work a,b;mask m foreign size 1 credit 0;person p size 1 honour 0 does a";
        LentMasks x = Town.of(town + promise("m a", 1, 5, 0) + promise("m a", 20, 7, 0) + promise("m b", 10, 0, 3));
        Edges.given(x, "the first, the last and one between", x::worth, 9);
        LentMasks one = Town.of(town.replace("20", "1") + promise("m b", 1, 0, 3));
        Edges.given(one, "a single day", one::worth, -3);
    }

    /** Promise 20: worth of all DONE less fine of all others, as lent and broken. */
    private static void realAsLentAndBroken() {
        LentMasks x = Town.of(TWO + ";person p size 1 honour 0 does a" + promise("m a", 1, 9, 4) + promise("m a", 1, 1, 2)
                + promise("n a", 1, 3, 7) + promise("m a", 2, 6, 5));
        Edges.given(x, "all on their pegs", () -> x.real(1), -13);
        x.lend(0, 0, 1, 1);
        Edges.given(x, "one is done", () -> x.real(1), 9 - 2 - 7);
        Edges.given(x, "not on the other day", () -> x.real(2), -5);
        x.breaking(0, 1, true);
        Edges.given(x, "none if it breaks", () -> x.real(1), -13);
        LentMasks none = Town.of(TWO + ";person p size 1 honour 0");
        Edges.given(none, "without promises", () -> none.real(2), 0);
    }

    /** -10,000: 1 (no BOOK); 2. */
    private static void realRefused() {
        LentMasks x = Town.of(Town.MARKET);
        Edges.refused(x, "real", Edges.offDays(DAYS), x::real, -10000, 2);
        Edges.given(x, "the first day", () -> x.real(1), 10);
        Edges.given(x, "the last day", () -> x.real(4), 0);
    }

    private static final String LENT = "town days 3;work a,b;mask m foreign size 1 credit 0;mask n foreign size 1 credit 0"
            + ";person p size 1 honour 0 does a;person q size 1 honour 0";

    private static int terms(String lines) {
        LentMasks x = Town.of(LENT + lines);
        x.fits(-1, -1);
        int answer = x.terms();
        Check.same("trouble of terms", x.trouble(), 0);
        return answer;
    }

    private static String effort(String what, int day, int fine, int effort) {
        return ";promise " + what + " on " + day + " worth 0 fine " + fine + " effort " + effort;
    }

    private static void termsOfNothing() {
        Check.same("no promises", terms(";lent m to p from 1 until 3"), 0);
        Check.same("no lendings", terms(effort("m a", 1, 0, 99)), 0);
    }

    /** TERMS: the least deposit (0 .. 99) by which nobody gains: effort is no more than the lesser of the deposit and fine. */
    private static void termsFrom0To99() {
        String lent = ";lent m to p from 1 until 1";
        Check.same("effort 0, fine 0", terms(effort("m a", 1, 0, 0) + lent), 0);
        Check.same("effort 0, fine 99", terms(effort("m a", 1, 99, 0) + lent), 0);
        Check.same("effort 1, fine 1", terms(effort("m a", 1, 1, 1) + lent), 1);
        Check.same("effort 98, fine 98", terms(effort("m a", 1, 98, 98) + lent), 98);
        Check.same("effort 98, fine 99", terms(effort("m a", 1, 99, 98) + lent), 98);
        Check.same("effort 99, fine 99", terms(effort("m a", 1, 99, 99) + lent), 99);
        String three = effort("m a", 1, 50, 7) + effort("m a", 1, 50, 9) + effort("m a", 1, 50, 8);
        Check.same("the most of all", terms(three + lent), 9);
    }

    /** Promise 21: -2 if 99 don't do. */
    private static void termsBeyondTheFine() {
        String lent = ";lent m to p from 1 until 1";
        Check.same("effort 1, fine 0", terms(effort("m a", 1, 0, 1) + lent), -2);
        Check.same("effort 99, fine 98", terms(effort("m a", 1, 98, 99) + lent), -2);
        Check.same("one of them, the first", terms(effort("m a", 1, 4, 5) + effort("m a", 1, 9, 9) + lent), -2);
        Check.same("one of them, the last", terms(effort("m a", 1, 9, 9) + effort("m a", 1, 4, 5) + lent), -2);
    }

    /** On the last DAY of its lending. */
    private static void termsOnTheLastDayAlone() {
        String promise = effort("m a", 2, 9, 6);
        Check.same("the last of one", terms(promise + ";lent m to p from 2 until 2"), 6);
        Check.same("the last of two", terms(promise + ";lent m to p from 1 until 2"), 6);
        Check.same("the first of two", terms(promise + ";lent m to p from 2 until 3"), 0);
        Check.same("between", terms(promise + ";lent m to p from 1 until 3"), 0);
        Check.same("the day behind", terms(promise + ";lent m to p from 1 until 1"), 0);
        Check.same("the day ahead", terms(promise + ";lent m to p from 3 until 3"), 0);
        Check.same("two lendings to one", terms(promise + ";lent m to p from 1 until 2;lent m to p from 3 until 3"), 6);
        Check.same("of another mask", terms(promise + ";lent n to p from 1 until 2"), 0);
    }

    /** For each PROMISE that who OWES it could do (it does that WORK). */
    private static void termsOfWhoCouldDoIt() {
        Check.same("q does nothing", terms(effort("m a", 2, 9, 6) + ";lent m to q from 2 until 2"), 0);
        Check.same("p doesn't do b", terms(effort("m b", 2, 0, 6) + ";lent m to p from 2 until 2"), 0);
        Check.same("who breaks could", terms(effort("m a", 2, 9, 6) + ";lent m to p from 2 until 2;break p on 2"), 6);
        Check.same("the second of a day could be", terms(effort("m a", 2, 9, 3) + effort("m a", 2, 9, 6)
                + ";lent m to p from 2 until 2"), 6);
    }

    private static int ask(int honour, String promises) {
        LentMasks x = Town.of("town days 3;work a;mask m foreign size 1 credit 0;person p size 1 honour " + honour + promises);
        x.fits(-1, -1);
        int answer = x.ask(0, 0, 1, 3);
        Check.same("trouble of ask", x.trouble(), 0);
        return answer;
    }

    /** ASK: fines of all PROMISES of the mask on these DAYS, times 100 less honour, by 100, upwards. */
    private static void askUpwards() {
        Check.same("no promises", ask(0, ""), 0);
        Check.same("no fines", ask(0, promise("m a", 1, 9, 0)), 0);
        Check.same("no honour", ask(0, promise("m a", 1, 0, 99)), 99);
        Check.same("1 by 100", ask(99, promise("m a", 1, 0, 1)), 1);
        Check.same("99 by 100", ask(99, promise("m a", 1, 0, 99)), 1);
        Check.same("100 by 100", ask(99, promise("m a", 1, 0, 99) + promise("m a", 2, 0, 1)), 1);
        Check.same("101 by 100", ask(99, promise("m a", 1, 0, 99) + promise("m a", 2, 0, 2)), 2);
        Check.same("50 by 100", ask(50, promise("m a", 1, 0, 1)), 1);
        Check.same("100 by 100, by halves", ask(50, promise("m a", 1, 0, 2)), 1);
        Check.same("150 by 100", ask(50, promise("m a", 1, 0, 3)), 2);
        Check.same("the most", ask(0, promise("m a", 1, 0, 99).repeat(12)), 1188);
        Check.same("the most of the most honour", ask(99, promise("m a", 1, 0, 99).repeat(12)), 12);
    }

    private static void askOnTheseDays() {
        LentMasks x = Town.of("town days 3;work a,b;mask m foreign size 1 credit 0;mask n foreign size 1 credit 0"
                + ";person p size 1 honour 0" + promise("m a", 1, 0, 1) + promise("m b", 2, 0, 10) + promise("n a", 2, 0, 64)
                + promise("m a", 3, 0, 30));
        int[][] due = {{1, 1, 1}, {1, 2, 11}, {1, 3, 41}, {2, 2, 10}, {2, 3, 40}, {3, 3, 30}};
        for (int[] d : due) {
            Edges.given(x, "ask from " + d[0] + " until " + d[1], () -> x.ask(0, 0, d[0], d[1]), d[2]);
        }
        x.lend(0, 0, 1, 3);
        x.breaking(0, 1, true);
        Edges.given(x, "lent or not, broken or not", () -> x.ask(0, 0, 1, 3), 41);
    }

    /** Promise 22: NONE: 1; 2 (DAYS); 5 (it doesn't FIT). */
    private static void askRefused() {
        LentMasks x = Town.of(Town.MARKET);
        Edges.refused(x, "ask, mask", Edges.off(3), n -> x.ask(n, 0, 1, 1), -1, 1);
        Edges.refused(x, "ask, person", Edges.off(3), n -> x.ask(0, n, 1, 1), -1, 1);
        Edges.refused(x, "ask, from", Edges.offDays(DAYS), n -> x.ask(0, 0, n, 4), -1, 2);
        Edges.refused(x, "ask, until", Edges.offDays(DAYS), n -> x.ask(0, 0, 1, n), -1, 2);
        Edges.refused(x, "ask, both days", Edges.offDays(DAYS), n -> x.ask(0, 0, n, n), -1, 2);
        Edges.refused(x, "ask, until below from", new int[] {1, 2, 3}, n -> x.ask(0, 0, 4, n), -1, 2);
        Edges.refused(x, "ask, doesn't fit", new int[] {1, 2}, n -> x.ask(n, 2, 1, 1), -1, 5);
        Edges.refused(x, "ask, mask ahead of days", Edges.offDays(DAYS), n -> x.ask(3, 0, n, n), -1, 1);
        Edges.refused(x, "ask, person ahead of days", Edges.offDays(DAYS), n -> x.ask(0, 3, n, n), -1, 1);
        Edges.refused(x, "ask, days ahead of what doesn't fit", Edges.offDays(DAYS), n -> x.ask(1, 2, n, 4), -1, 2);
        Edges.given(x, "one day", () -> x.ask(0, 0, 4, 4), 0);
    }
}
