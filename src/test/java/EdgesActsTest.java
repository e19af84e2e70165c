/** Promises 30 to 37, sentence by sentence: acts on first and last days, full rooms, what can be undone, images. */
public final class EdgesActsTest {
    private static final int DAYS = 20;
    private static final String TOWN = "town days 20;mask m foreign size 1 credit 0;mask n foreign size 1 credit 0"
            + ";mask k king size 5 credit 0;person p size 1 honour 0;person q size 1 honour 0;person r size 5 honour 60";

    public static void main(String[] args) {
        lendOnAllDays();
        lendRefusedByNumbers();
        lendWithoutRoom();
        lendThatCannotBe();
        lendRefusedInOrder();
        giveEndsAheadOfTheDay();
        giveAllIfItBeginsThen();
        giveRefused();
        passFromThatDayOn();
        passFromItsFirstDay();
        passRefusedByNumbers();
        passOfWhatIsNotLent();
        passWithoutRoom();
        passThatIsNotSo();
        passToOneThatHasAnother();
        passRefusedInOrder();
        breakOrNotAnyMore();
        breakRefused();
        lendingsInOrder();
        undoWithoutActs();
        undoOfTwelveKept();
        undoOfEachSort();
        redoTheLatestUndone();
        redoIfNoActCameSince();
        refusedActsAreNone();
        imagesUpToThree();
        imagesKeepLendingsAndBreaks();
        backToNone();
        backLeavesNothingToUndo();
        Check.end();
    }

    /** Promise 30: LEND: true. */
    private static void lendOnAllDays() {
        LentMasks x = Town.of(TOWN);
        Edges.done(x, "the first day", () -> x.lend(0, 0, 1, 1));
        Edges.done(x, "the last day", () -> x.lend(0, 0, 20, 20));
        Edges.done(x, "all between", () -> x.lend(0, 0, 2, 19));
        Edges.done(x, "all days", () -> x.lend(1, 1, 1, 20));
        Edges.done(x, "the last mask to the last person", () -> x.lend(2, 2, 1, 20));
        Edges.lent(x, "lent", "0:0:1-1 0:0:2-19 0:0:20-20 1:1:1-20 2:2:1-20");
        LentMasks one = Town.of("town days 1;mask m plain size 1 credit 0;person p size 1 honour 0");
        Edges.done(one, "the only day", () -> one.lend(0, 0, 1, 1));
        Edges.kept(one, "once more", 5, () -> one.lend(0, 0, 1, 1));
        Edges.kept(one, "a day more", 2, () -> one.lend(0, 0, 1, 2));
    }

    /** False: 1 (mask, person); 2 (DAYS). */
    private static void lendRefusedByNumbers() {
        LentMasks x = Town.of(TOWN);
        Edges.kept(x, "mask", 1, Edges.off(3), n -> x.lend(n, 0, 1, 1));
        Edges.kept(x, "person", 1, Edges.off(3), n -> x.lend(0, n, 1, 1));
        Edges.kept(x, "from", 2, Edges.offDays(DAYS), n -> x.lend(0, 0, n, 20));
        Edges.kept(x, "until", 2, Edges.offDays(DAYS), n -> x.lend(0, 0, 1, n));
        Edges.kept(x, "both days", 2, Edges.offDays(DAYS), n -> x.lend(0, 0, n, n));
        Edges.kept(x, "until below from", 2, () -> x.lend(0, 0, 2, 1));
        Edges.kept(x, "until below from", 2, () -> x.lend(0, 0, 20, 19));
    }

    /** Nineteen of m to p, one day each, and one of n to q; k is on its peg. */
    private static LentMasks full() {
        LentMasks x = Town.of(TOWN);
        for (int day = 1; day <= 19; day++) {
            int d = day;
            Edges.done(x, "lend " + day, () -> x.lend(0, 0, d, d));
        }
        Edges.done(x, "the twentieth", () -> x.lend(1, 1, 3, 6));
        Check.same("lendings", x.size(4), 20);
        return x;
    }

    /** 3 (20 lendings are). */
    private static void lendWithoutRoom() {
        LentMasks x = full();
        Edges.kept(x, "the twenty-first", 3, () -> x.lend(2, 2, 1, 1));
        Edges.done(x, "one less", () -> x.give(0, 1));
        Edges.done(x, "room again", () -> x.lend(2, 2, 1, 1));
        Edges.kept(x, "full again", 3, () -> x.lend(2, 2, 2, 2));
        Edges.done(x, "ended ahead of a day, it still is one", () -> x.give(1, 4));
        Edges.kept(x, "full still", 3, () -> x.lend(2, 2, 2, 2));
        Edges.done(x, "undo", x::undo);
        Edges.done(x, "undo", x::undo);
        Edges.done(x, "another one", () -> x.lend(2, 2, 20, 20));
        Check.same("lendings", x.size(4), 20);
    }

    /** 5 (it can't be, as in I. 7): the MASK doesn't FIT, is lent on one of these days, or the PERSON has one. */
    private static void lendThatCannotBe() {
        LentMasks x = Town.of(TOWN + ";lent m to p from 5 until 7");
        Edges.kept(x, "doesn't fit", 5, () -> x.lend(2, 0, 1, 1));
        int[][] touching = {{1, 5}, {7, 20}, {5, 5}, {6, 6}, {7, 7}, {5, 7}, {4, 8}, {1, 20}};
        for (int[] d : touching) {
            Edges.kept(x, "m is lent from " + d[0] + " until " + d[1], 5, () -> x.lend(0, 1, d[0], d[1]));
            Edges.kept(x, "p has one from " + d[0] + " until " + d[1], 5, () -> x.lend(1, 0, d[0], d[1]));
        }
        int[][] free = {{1, 4}, {8, 20}};
        for (int[] d : free) {
            Edges.done(x, "m is free from " + d[0], () -> x.lend(0, 1, d[0], d[1]));
            Edges.done(x, "p is free from " + d[0], () -> x.lend(1, 0, d[0], d[1]));
        }
    }

    private static void lendRefusedInOrder() {
        LentMasks x = full();
        Edges.kept(x, "1 ahead of 2", 1, Edges.offDays(DAYS), n -> x.lend(3, 0, n, n));
        Edges.kept(x, "1 ahead of 2", 1, Edges.offDays(DAYS), n -> x.lend(0, 3, n, n));
        Edges.kept(x, "2 ahead of 3", 2, Edges.offDays(DAYS), n -> x.lend(2, 2, n, n));
        Edges.kept(x, "3 ahead of 5", 3, () -> x.lend(2, 0, 20, 20));
        Edges.kept(x, "3 ahead of 5", 3, () -> x.lend(0, 0, 1, 1));
    }

    private static final String LENT = TOWN + ";lent m to p from 5 until 7;lent m to q from 8 until 8"
            + ";lent n to p from 8 until 20";

    /** GIVE back (the lending of that DAY ends ahead of it). */
    private static void giveEndsAheadOfTheDay() {
        LentMasks last = Town.of(LENT);
        Edges.done(last, "on its last day", () -> last.give(0, 7));
        Edges.lent(last, "two days are left", "0:0:5-6 0:1:8-8 1:0:8-20");
        LentMasks second = Town.of(LENT);
        Edges.done(second, "on its second day", () -> second.give(0, 6));
        Edges.lent(second, "one day is left", "0:0:5-5 0:1:8-8 1:0:8-20");
        LentMasks town = Town.of(LENT);
        Edges.done(town, "on the town's last day", () -> town.give(1, 20));
        Edges.lent(town, "one day less", "0:0:5-7 0:1:8-8 1:0:8-19");
    }

    /** All, if it begins then. */
    private static void giveAllIfItBeginsThen() {
        LentMasks x = Town.of(LENT);
        Edges.done(x, "on its first day", () -> x.give(0, 5));
        Edges.lent(x, "gone", "0:1:8-8 1:0:8-20");
        Edges.done(x, "on its only day", () -> x.give(0, 8));
        Edges.lent(x, "gone too", "1:0:8-20");
        Edges.done(x, "the last one", () -> x.give(1, 8));
        Edges.lent(x, "none is left", "");
    }

    /** Promise 31: false: 1; 2; 6 (it isn't lent then). */
    private static void giveRefused() {
        LentMasks x = Town.of(LENT);
        Edges.kept(x, "mask", 1, Edges.off(3), n -> x.give(n, 5));
        Edges.kept(x, "day", 2, Edges.offDays(DAYS), n -> x.give(0, n));
        Edges.kept(x, "1 ahead of 2", 1, Edges.offDays(DAYS), n -> x.give(3, n));
        Edges.kept(x, "not lent", 6, new int[] {1, 4, 9, 20}, n -> x.give(0, n));
        Edges.kept(x, "never lent", 6, new int[] {1, 8, 20}, n -> x.give(2, n));
        Edges.done(x, "lent", () -> x.give(0, 7));
        Edges.kept(x, "not any more", 6, () -> x.give(0, 7));
    }

    /** PASS on (from that DAY on it is another one's, till that lending ends). */
    private static void passFromThatDayOn() {
        LentMasks last = Town.of(LENT);
        Edges.done(last, "on its last day", () -> last.pass(0, 7, 1));
        Edges.lent(last, "two lendings", "0:0:5-6 0:1:7-7 0:1:8-8 1:0:8-20");
        LentMasks second = Town.of(LENT);
        Edges.done(second, "on its second day", () -> second.pass(0, 6, 2));
        Edges.lent(second, "two lendings", "0:0:5-5 0:2:6-7 0:1:8-8 1:0:8-20");
        Edges.done(second, "and back to the first one", () -> second.pass(0, 7, 0));
        Edges.lent(second, "three lendings", "0:0:5-5 0:2:6-6 0:0:7-7 0:1:8-8 1:0:8-20");
    }

    private static void passFromItsFirstDay() {
        LentMasks x = Town.of(LENT);
        Edges.done(x, "on its first day", () -> x.pass(0, 5, 2));
        Edges.lent(x, "one lending still", "0:2:5-7 0:1:8-8 1:0:8-20");
        Edges.done(x, "on its only day", () -> x.pass(0, 8, 2));
        Edges.lent(x, "another one's", "0:2:5-7 0:2:8-8 1:0:8-20");
        Edges.done(x, "all days", () -> x.pass(1, 8, 1));
        Edges.lent(x, "another one's", "0:2:5-7 0:2:8-8 1:1:8-20");
    }

    /** Promise 32: false: 1; 2. */
    private static void passRefusedByNumbers() {
        LentMasks x = Town.of(LENT);
        Edges.kept(x, "mask", 1, Edges.off(3), n -> x.pass(n, 5, 1));
        Edges.kept(x, "person", 1, Edges.off(3), n -> x.pass(0, 5, n));
        Edges.kept(x, "day", 2, Edges.offDays(DAYS), n -> x.pass(0, n, 1));
    }

    /** 6 (it isn't lent then). */
    private static void passOfWhatIsNotLent() {
        LentMasks x = Town.of(LENT);
        Edges.kept(x, "not lent", 6, new int[] {1, 4, 9, 20}, n -> x.pass(0, n, 2));
        Edges.kept(x, "never lent", 6, new int[] {1, 8, 20}, n -> x.pass(2, n, 2));
    }

    /** 3 (20 lendings are, and it would be one more). */
    private static void passWithoutRoom() {
        LentMasks x = full();
        Edges.kept(x, "on its second day", 3, () -> x.pass(1, 4, 2));
        Edges.kept(x, "on its last day", 3, () -> x.pass(1, 6, 2));
        Edges.done(x, "on its first day it wouldn't", () -> x.pass(1, 3, 2));
        Edges.done(x, "nor on its only day", () -> x.pass(0, 19, 1));
        Check.same("lendings", x.size(4), 20);
        Edges.done(x, "one less", () -> x.give(0, 19));
        Edges.done(x, "room again", () -> x.pass(1, 6, 1));
        Check.same("lendings", x.size(4), 20);
        Edges.kept(x, "full again", 3, () -> x.pass(1, 5, 1));
    }

    /** 5 (it is that one's already, doesn't FIT ..). */
    private static void passThatIsNotSo() {
        LentMasks x = Town.of(LENT + ";lent k to r from 1 until 3");
        Edges.kept(x, "its own already", 5, new int[] {5, 6, 7}, n -> x.pass(0, n, 0));
        Edges.kept(x, "its own already", 5, new int[] {8, 9, 20}, n -> x.pass(1, n, 0));
        Edges.kept(x, "doesn't fit", 5, new int[] {1, 2, 3}, n -> x.pass(2, n, 1));
        // Honour 60 is enough, 59 isn't; a size one apart fits, two apart doesn't.
        LentMasks king = Town.of("town days 2;mask k king size 5 credit 0;person p size 5 honour 60;person q size 5 honour 59"
                + ";person r size 4 honour 60;person s size 3 honour 99;lent k to p from 1 until 2");
        Edges.kept(king, "too little honour", 5, () -> king.pass(0, 1, 1));
        Edges.kept(king, "too small", 5, () -> king.pass(0, 1, 3));
        Edges.done(king, "small enough", () -> king.pass(0, 1, 2));
    }

    /** Or that one has another one on a DAY of it. */
    private static void passToOneThatHasAnother() {
        String town = TOWN + ";lent m to p from 5 until 10;lent n to q from ";
        String[] touching = {"10 until 10", "10 until 20", "7 until 7", "1 until 7", "8 until 9", "1 until 20"};
        for (String days : touching) {
            LentMasks x = Town.of(town + days);
            Edges.kept(x, "q has n from " + days, 5, () -> x.pass(0, 7, 1));
        }
        // The days ahead of that one stay p's, so q may have another one then.
        String[] free = {"11 until 11", "11 until 20", "1 until 4", "1 until 6", "5 until 6", "6 until 6"};
        for (String days : free) {
            LentMasks x = Town.of(town + days);
            Edges.done(x, "q has n from " + days, () -> x.pass(0, 7, 1));
        }
    }

    private static void passRefusedInOrder() {
        LentMasks x = full();
        Edges.kept(x, "1 ahead of 2", 1, Edges.offDays(DAYS), n -> x.pass(3, n, 0));
        Edges.kept(x, "1 ahead of 2", 1, Edges.offDays(DAYS), n -> x.pass(0, n, 3));
        Edges.kept(x, "2 ahead of 6", 2, Edges.offDays(DAYS), n -> x.pass(2, n, 2));
        Edges.kept(x, "6 ahead of 3 and 5", 6, () -> x.pass(2, 7, 0));
        Edges.kept(x, "3 ahead of 5: its own", 3, () -> x.pass(1, 4, 1));
        Edges.kept(x, "3 ahead of 5: has another one", 3, () -> x.pass(1, 4, 0));
        Edges.kept(x, "5 where no room is wanted: its own", 5, () -> x.pass(1, 3, 1));
        Edges.kept(x, "5 where no room is wanted: has another one", 5, () -> x.pass(1, 3, 0));
    }

    /** Promise 33: BREAK (on a DAY from now on, or not any more): true. */
    private static void breakOrNotAnyMore() {
        LentMasks x = Town.of(TOWN + ";break q on 20");
        Edges.done(x, "the first day", () -> x.breaking(0, 1, true));
        Edges.done(x, "the last day", () -> x.breaking(2, 20, true));
        Edges.done(x, "told, not any more", () -> x.breaking(1, 20, false));
        Edges.done(x, "and again", () -> x.breaking(1, 20, true));
        Edges.done(x, "not any more", () -> x.breaking(0, 1, false));
        int[][] due = {{0, 1, 0}, {0, 20, 0}, {1, 20, 1}, {1, 1, 0}, {2, 20, 1}, {2, 19, 0}};
        for (int[] d : due) {
            Edges.given(x, "breaks " + d[0] + " on " + d[1], () -> x.breaks(d[0], d[1]), d[2]);
        }
        // The text has room for eight, acts have none to keep to.
        LentMasks all = Town.of(TOWN);
        for (int i = 0; i < 60; i++) {
            int n = i;
            Edges.done(all, "break " + i, () -> all.breaking(n % 3, n / 3 + 1, true));
        }
        for (int i = 0; i < 60; i++) {
            int n = i;
            Edges.given(all, "breaks " + i, () -> all.breaks(n % 3, n / 3 + 1), 1);
        }
    }

    /** False: 1; 2; 5 (it is so already). */
    private static void breakRefused() {
        LentMasks x = Town.of(TOWN + ";break q on 20");
        for (boolean is : new boolean[] {false, true}) {
            Edges.kept(x, "person", 1, Edges.off(3), n -> x.breaking(n, 1, is));
            Edges.kept(x, "day", 2, Edges.offDays(DAYS), n -> x.breaking(0, n, is));
            Edges.kept(x, "1 ahead of 2", 1, Edges.offDays(DAYS), n -> x.breaking(3, n, is));
        }
        Edges.kept(x, "breaks already", 5, () -> x.breaking(1, 20, true));
        Edges.kept(x, "doesn't break", 5, () -> x.breaking(1, 19, false));
        Edges.kept(x, "doesn't break", 5, () -> x.breaking(0, 20, false));
    }

    /** Lendings are in order of masks, DAYS. */
    private static void lendingsInOrder() {
        LentMasks x = Town.of(TOWN + ";lent n to p from 20 until 20;lent m to q from 19 until 20;lent m to p from 1 until 2");
        Edges.lent(x, "as told", "0:0:1-2 0:1:19-20 1:0:20-20");
        x.lend(0, 2, 10, 11);
        x.lend(1, 2, 1, 9);
        Edges.lent(x, "as lent", "0:0:1-2 0:2:10-11 0:1:19-20 1:2:1-9 1:0:20-20");
        x.pass(0, 11, 1);
        Edges.lent(x, "as passed on", "0:0:1-2 0:2:10-10 0:1:11-11 0:1:19-20 1:2:1-9 1:0:20-20");
        x.give(0, 1);
        Edges.lent(x, "as given back", "0:2:10-10 0:1:11-11 0:1:19-20 1:2:1-9 1:0:20-20");
    }

    /** Promises 34 and 35: false: 6. */
    private static void undoWithoutActs() {
        LentMasks x = Town.of(TOWN);
        Edges.kept(x, "undo", 6, x::undo);
        Edges.kept(x, "redo", 6, x::redo);
        x.lend(0, 0, 1, 1);
        Edges.kept(x, "redo behind an act", 6, x::redo);
        Edges.done(x, "undo", x::undo);
        Edges.kept(x, "undo once more", 6, x::undo);
        Edges.done(x, "redo", x::redo);
        Edges.kept(x, "redo once more", 6, x::redo);
    }

    /** UNDO: the latest ACT (of up to 12 kept). */
    private static void undoOfTwelveKept() {
        for (int acts = 11; acts <= 40; acts++) {
            LentMasks x = Town.of(TOWN);
            for (int i = 0; i < acts; i++) {
                x.breaking(i % 3, i / 3 + 1, true);
                Check.same("kept", x.size(8), Math.min(12, i + 1));
            }
            int kept = Math.min(12, acts);
            for (int i = 0; i < kept; i++) {
                int latest = acts - 1 - i;
                Edges.done(x, "undo of " + acts, x::undo);
                Edges.given(x, "undone", () -> x.breaks(latest % 3, latest / 3 + 1), 0);
                if (latest > 0) {
                    Edges.given(x, "the one ahead isn't", () -> x.breaks((latest - 1) % 3, (latest - 1) / 3 + 1), 1);
                }
                Check.same("kept still", x.size(8), kept - 1 - i);
                Check.same("redone", x.size(9), i + 1);
            }
            Edges.kept(x, "one more", 6, x::undo);
            for (int i = 0; i < kept; i++) {
                int first = acts - kept + i;
                Edges.done(x, "redo of " + acts, x::redo);
                Edges.given(x, "redone", () -> x.breaks(first % 3, first / 3 + 1), 1);
                Check.same("kept again", x.size(8), i + 1);
                Check.same("to redo still", x.size(9), kept - 1 - i);
            }
            Edges.kept(x, "one more", 6, x::redo);
        }
    }

    private static void undoOfEachSort() {
        LentMasks x = Town.of(LENT);
        String[] states = new String[6];
        states[0] = Edges.lendings(x) + x.breaks(0, 1);
        x.lend(2, 2, 1, 20);
        states[1] = Edges.lendings(x) + x.breaks(0, 1);
        x.pass(0, 6, 1);
        states[2] = Edges.lendings(x) + x.breaks(0, 1);
        x.give(1, 8);
        states[3] = Edges.lendings(x) + x.breaks(0, 1);
        x.breaking(0, 1, true);
        states[4] = Edges.lendings(x) + x.breaks(0, 1);
        x.breaking(0, 1, false);
        states[5] = Edges.lendings(x) + x.breaks(0, 1);
        for (int i = 4; i >= 0; i--) {
            Edges.done(x, "undo", x::undo);
            Check.yes("as ahead of act " + i, states[i].equals(Edges.lendings(x) + x.breaks(0, 1)));
        }
        for (int i = 1; i <= 5; i++) {
            Edges.done(x, "redo", x::redo);
            Check.yes("as behind act " + i, states[i].equals(Edges.lendings(x) + x.breaks(0, 1)));
        }
    }

    /** REDO: the latest undone. */
    private static void redoTheLatestUndone() {
        LentMasks x = Town.of(TOWN);
        x.lend(0, 0, 1, 1);
        x.lend(0, 0, 2, 2);
        x.lend(0, 0, 3, 3);
        x.undo();
        x.undo();
        Edges.lent(x, "two are undone", "0:0:1-1");
        Edges.done(x, "redo", x::redo);
        Edges.lent(x, "the second comes first", "0:0:1-1 0:0:2-2");
        x.undo();
        x.redo();
        Edges.done(x, "redo", x::redo);
        Edges.lent(x, "then the third", "0:0:1-1 0:0:2-2 0:0:3-3");
    }

    /** If no ACT came since. */
    private static void redoIfNoActCameSince() {
        for (int act = 0; act < 4; act++) {
            LentMasks x = Town.of(LENT);
            x.lend(2, 2, 1, 1);
            x.lend(2, 2, 2, 2);
            x.undo();
            Check.same("one can be redone", x.size(9), 1);
            int sort = act;
            Edges.done(x, "act " + act, () -> sort == 0 ? x.lend(2, 2, 3, 3) : sort == 1 ? x.give(0, 5)
                    : sort == 2 ? x.pass(0, 5, 1) : x.breaking(0, 1, true));
            Check.same("none can be redone", x.size(9), 0);
            Check.same("two can be undone", x.size(8), 2);
            Edges.kept(x, "redo behind act " + act, 6, x::redo);
        }
    }

    private static void refusedActsAreNone() {
        LentMasks x = Town.of(LENT);
        x.lend(2, 2, 1, 1);
        x.undo();
        Edges.kept(x, "lend", 5, () -> x.lend(0, 0, 5, 5));
        Edges.kept(x, "give", 6, () -> x.give(0, 1));
        Edges.kept(x, "pass", 5, () -> x.pass(0, 5, 0));
        Edges.kept(x, "breaking", 5, () -> x.breaking(0, 1, false));
        Edges.kept(x, "undo", 6, x::undo);
        Edges.kept(x, "back", 1, () -> x.back(0));
        Edges.given(x, "an image is no act", x::image, 0);
        Edges.done(x, "redo behind them", x::redo);
    }

    /** IMAGES: up to 3; promise 36: its number; NONE: 1 (no BOOK); 3. */
    private static void imagesUpToThree() {
        LentMasks x = Town.of(TOWN);
        for (int i = 0; i < 3; i++) {
            Check.same("images", x.size(10), i);
            Edges.given(x, "image " + i, x::image, i);
        }
        for (int i = 0; i < 3; i++) {
            Check.refused(x, "a fourth", x.image(), -1, 3);
            Check.same("images", x.size(10), 3);
        }
        x.back(1);
        Check.refused(x, "going back makes no room", x.image(), -1, 3);
    }

    /** Each keeps lendings and breaks; promise 37: (all IMAGES stay). */
    private static void imagesKeepLendingsAndBreaks() {
        LentMasks x = Town.of(LENT + ";break p on 1");
        String[] states = new String[3];
        for (int i = 0; i < 3; i++) {
            states[i] = Edges.lendings(x) + x.breaks(0, 1) + x.breaks(1, 1) + x.breaks(2, 1);
            x.image();
            x.lend(2, 2, i + 1, i + 1);
            x.breaking(i, 1, i > 0);
        }
        int[] order = {2, 0, 1, 0, 2, 2};
        for (int i : order) {
            Edges.done(x, "back to " + i, () -> x.back(i));
            Check.yes("as by image " + i, states[i].equals(Edges.lendings(x) + x.breaks(0, 1) + x.breaks(1, 1) + x.breaks(2, 1)));
            Check.same("all images stay", x.size(10), 3);
            x.give(1, 8);
            x.breaking(0, 20, true);
        }
    }

    /** False: 1. */
    private static void backToNone() {
        LentMasks x = Town.of(LENT);
        Edges.kept(x, "no images", 1, Edges.off(0), x::back);
        x.lend(2, 2, 1, 1);
        for (int i = 1; i <= 3; i++) {
            x.image();
            Edges.kept(x, i + " images", 1, Edges.off(i), x::back);
        }
    }

    /** Gone back to, nothing can be undone or redone. */
    private static void backLeavesNothingToUndo() {
        LentMasks x = Town.of(LENT);
        x.image();
        x.lend(2, 2, 1, 1);
        x.lend(2, 2, 2, 2);
        x.undo();
        Edges.done(x, "back", () -> x.back(0));
        Check.same("nothing to undo", x.size(8), 0);
        Check.same("nothing to redo", x.size(9), 0);
        Edges.kept(x, "undo", 6, x::undo);
        Edges.kept(x, "redo", 6, x::redo);
        x.lend(2, 2, 3, 3);
        Edges.done(x, "an act behind it can be undone", x::undo);
        Edges.lent(x, "as by the image", "0:0:5-7 0:1:8-8 1:0:8-20");
        Edges.kept(x, "and no other", 6, x::undo);
    }
}
