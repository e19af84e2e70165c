/** Promises 16 to 22: value, plan, needed, worth, real, terms, ask. */
public final class PlansTest {
    private static final String TIES = "town days 3;work w,v"
            + ";mask m foreign size 1 credit 0;mask n foreign size 1 credit 0;mask o plain size 5 credit 0"
            + ";person p size 1 honour 0 does w;person q size 1 honour 0 does w,v";

    public static void main(String[] args) {
        market();
        ties();
        refusals();
        terms();
        ask();
        Check.end();
    }

    private static void market() {
        LentMasks x = Town.of(Town.MARKET);
        int[] value = {10, 14, 30, 0};
        int[] real = {10, 2, -30, 0};
        for (int day = 1; day <= 4; day++) {
            Check.given(x, "value(" + day + ")", x.value(day), value[day - 1]);
            Check.given(x, "real(" + day + ")", x.real(day), real[day - 1]);
        }
        Check.given(x, "worth", x.worth(), 54);
        int[][] plan = {{0, -2, -2}, {1, -2, -2}, {-2, -2, 0}, {-2, -2, -2}};
        for (int day = 1; day <= 4; day++) {
            for (int mask = 0; mask < 3; mask++) {
                Check.given(x, "plan(" + day + ", " + mask + ")", x.plan(day, mask), plan[day - 1][mask]);
            }
        }
        Check.given(x, "ann can be done without, as bob mills too", x.needed(1, 0), 0);
        Check.given(x, "nobody but bob bakes or fits cat", x.needed(2, 1), 28);
        Check.given(x, "nobody but ann fits bear", x.needed(3, 0), 60);
        Check.given(x, "needed on a day without promises", x.needed(4, 1), 0);
        x.breaking(0, 3, true);
        x.give(0, 1);
        Check.given(x, "a plan has nobody breaking", x.value(3), 30);
        Check.given(x, "nor looks at lendings", x.value(1), 10);
        Check.given(x, "what is so does", x.real(1), -4);
        x.lend(2, 0, 3, 3);
        Check.given(x, "who breaks is fined", x.real(3), -30);
        x.breaking(0, 3, false);
        Check.given(x, "who doesn't has its worth", x.real(3), 30);
    }

    private static void ties() {
        LentMasks x = Town.of(TIES
                + ";promise m w on 1 worth 5 fine 0 effort 0"
                + ";promise n w on 1 worth 5 fine 0 effort 0"
                + ";promise m w on 2 worth 0 fine 0 effort 0"
                + ";promise m w on 3 worth 1 fine 2 effort 0"
                + ";promise m w on 3 worth 9 fine 1 effort 0"
                + ";promise n v on 3 worth 7 fine 3 effort 0"
                + ";promise n w on 3 worth 8 fine 1 effort 0");
        Check.given(x, "both masks are worn", x.value(1), 10);
        Check.given(x, "the first person in the first mask", x.plan(1, 0), 0);
        Check.given(x, "the second in the second", x.plan(1, 1), 1);
        Check.given(x, "one more or less is as good", x.needed(1, 0), 5);
        Check.given(x, "the peg goes ahead of persons that add nothing", x.plan(2, 0), -2);
        Check.given(x, "value of it", x.value(2), 0);
        Check.given(x, "a promise once done keeps the next from it", x.value(3), 1 - 1 + 7 - 1);
        Check.given(x, "who has two works does the first by lines", x.plan(3, 1), 1);
        Check.given(x, "a mask that fits nobody", x.plan(3, 2), -2);
        Check.given(x, "without q, p does one of them", x.needed(3, 1), 6 - Math.max(0 - 4, -3 - 3 + 8));
        Check.given(x, "worth", x.worth(), 10 + 0 + 6);
    }

    private static void refusals() {
        LentMasks none = new LentMasks();
        Check.refused(none, "value without a book", none.value(0), -10000, 1);
        Check.refused(none, "real without a book", none.real(0), -10000, 1);
        Check.refused(none, "worth without a book", none.worth(), -100000, 1);
        Check.refused(none, "terms without a book", none.terms(), -1, 1);
        LentMasks x = Town.of(Town.MARKET);
        for (int day : new int[] {Integer.MIN_VALUE, 0, 5, Integer.MAX_VALUE}) {
            Check.refused(x, "value(" + day + ")", x.value(day), -10000, 2);
            Check.refused(x, "real(" + day + ")", x.real(day), -10000, 2);
            Check.refused(x, "plan(" + day + ", 0)", x.plan(day, 0), -1, 2);
            Check.refused(x, "plan(" + day + ", 3)", x.plan(day, 3), -1, 1);
            Check.refused(x, "needed(" + day + ", 0)", x.needed(day, 0), -1, 2);
            Check.refused(x, "needed(" + day + ", 3)", x.needed(day, 3), -1, 1);
        }
        Check.refused(x, "plan(1, -1)", x.plan(1, -1), -1, 1);
        Check.refused(x, "needed(1, -1)", x.needed(1, -1), -1, 1);
    }

    private static void terms() {
        LentMasks x = Town.of(Town.MARKET);
        Check.given(x, "no promise on a last day that its debtor could do", x.terms(), 0);
        x.give(1, 3);
        Check.given(x, "all that bob could do on 2 count, done or not", x.terms(), 2);
        x.breaking(1, 2, true);
        Check.given(x, "broken or not", x.terms(), 2);
        x.lend(2, 0, 3, 3);
        Check.given(x, "the most effort", x.terms(), 5);
        x.undo();
        x.lend(2, 0, 3, 4);
        Check.given(x, "the last day alone", x.terms(), 2);
        x.give(0, 1);
        x.lend(0, 1, 1, 1);
        Check.given(x, "with bob in ox on 1", x.terms(), 3);
        LentMasks dear = Town.of("town days 1;work w;mask m plain size 1 credit 0;person p size 1 honour 0 does w"
                + ";promise m w on 1 worth 9 fine 8 effort 9;lent m to p from 1 until 1");
        Check.given(dear, "effort beyond the fine", dear.terms(), -2);
        LentMasks most = Town.of("town days 1;work w;mask m plain size 1 credit 0;person p size 1 honour 0 does w"
                + ";promise m w on 1 worth 9 fine 99 effort 99;lent m to p from 1 until 1");
        Check.given(most, "99 do", most.terms(), 99);
    }

    private static void ask() {
        LentMasks x = Town.of(Town.MARKET);
        Check.given(x, "ask(0, 0, 1, 2)", x.ask(0, 0, 1, 2), 4);
        Check.given(x, "ask(0, 1, 1, 2)", x.ask(0, 1, 1, 2), 10);
        Check.given(x, "ask(0, 1, 2, 4)", x.ask(0, 1, 2, 4), 7);
        Check.given(x, "ask(0, 1, 3, 3)", x.ask(0, 1, 3, 3), 0);
        Check.given(x, "30 times 30 by 100", x.ask(2, 0, 1, 4), 9);
        LentMasks dear = Town.of(TIES + ";promise m w on 1 worth 0 fine 99 effort 0;promise m v on 3 worth 0 fine 99 effort 0"
                + ";promise m v on 2 worth 0 fine 1 effort 0");
        Check.given(dear, "all of the fines, without honour", dear.ask(0, 1, 1, 3), 199);
        Check.given(dear, "of the days alone", dear.ask(0, 1, 2, 3), 100);
        Check.refused(x, "ask(3, 0, 1, 1)", x.ask(3, 0, 1, 1), -1, 1);
        Check.refused(x, "ask(0, 3, 0, 1)", x.ask(0, 3, 0, 1), -1, 1);
        Check.refused(x, "ask(1, 0, 0, 1)", x.ask(1, 0, 0, 1), -1, 2);
        Check.refused(x, "ask(1, 0, 1, 5)", x.ask(1, 0, 1, 5), -1, 2);
        Check.refused(x, "ask(0, 0, 2, 1)", x.ask(0, 0, 2, 1), -1, 2);
        Check.refused(x, "ask(1, 0, 1, 1)", x.ask(1, 0, 1, 1), -1, 5);
    }
}
