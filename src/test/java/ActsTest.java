/** Promises 30 to 37: lend, give, pass, breaking, undo, redo, image, back. */
public final class ActsTest {
    private static final String WIDE = "town days 20"
            + ";mask m foreign size 1 credit 0;mask n foreign size 1 credit 0;mask k king size 5 credit 0"
            + ";person p size 1 honour 0;person q size 1 honour 0;person r size 1 honour 0";

    public static void main(String[] args) {
        lend();
        lendWithoutRoom();
        give();
        pass();
        passWithoutRoom();
        breaking();
        undoAndRedo();
        twelveAreKept();
        refusedActsChangeNothing();
        images();
        Check.end();
    }

    private static void lendings(LentMasks x, String what, int[]... due) {
        Check.same(what + ": how many", x.size(4), due.length);
        for (int i = 0; i < due.length; i++) {
            for (int k = 0; k < 4; k++) {
                Check.given(x, what + ": lending(" + i + ", " + k + ")", x.lending(i, k), due[i][k]);
            }
        }
    }

    private static int[] row(int mask, int person, int from, int until) {
        return new int[] {mask, person, from, until};
    }

    private static void lend() {
        LentMasks x = Town.of(WIDE);
        Check.done(x, "lend n", x.lend(1, 0, 5, 9));
        Check.done(x, "lend m later", x.lend(0, 1, 10, 20));
        Check.done(x, "lend m earlier", x.lend(0, 0, 1, 4));
        Check.done(x, "lend m in one gap", x.lend(0, 2, 5, 9));
        lendings(x, "in order of masks and days", row(0, 0, 1, 4), row(0, 2, 5, 9), row(0, 1, 10, 20), row(1, 0, 5, 9));
        Check.refused(x, "no such mask", x.lend(3, 0, 0, 0), 1);
        Check.refused(x, "no such person", x.lend(0, 3, 0, 0), 1);
        Check.refused(x, "day 0", x.lend(0, 0, 0, 1), 2);
        Check.refused(x, "day 21", x.lend(0, 0, 1, 21), 2);
        Check.refused(x, "days turned", x.lend(1, 1, 2, 1), 2);
        Check.refused(x, "doesn't fit", x.lend(2, 0, 1, 1), 5);
        Check.refused(x, "lent on its first day", x.lend(1, 1, 1, 5), 5);
        Check.refused(x, "lent on its last day", x.lend(1, 2, 9, 20), 5);
        Check.refused(x, "lent all round it", x.lend(1, 2, 6, 7), 5);
        Check.refused(x, "lent inside of it", x.lend(1, 2, 1, 20), 5);
        Check.refused(x, "the person has one", x.lend(1, 0, 3, 4), 5);
        Check.done(x, "on the days between", x.lend(1, 1, 4, 4));
        Check.same("acts", x.size(8), 5);
    }

    private static LentMasks full() {
        LentMasks x = Town.of(WIDE);
        for (int day = 1; day <= 19; day++) {
            Check.done(x, "lend day by day", x.lend(0, 0, day, day));
        }
        Check.done(x, "the twentieth", x.lend(1, 1, 3, 6));
        return x;
    }

    private static void lendWithoutRoom() {
        LentMasks x = full();
        Check.refused(x, "the twenty-first", x.lend(1, 1, 10, 10), 3);
        Check.refused(x, "no room goes ahead of what can't be", x.lend(2, 1, 10, 10), 3);
        Check.refused(x, "days go ahead of no room", x.lend(1, 1, 11, 10), 2);
        Check.done(x, "give one back", x.give(0, 7));
        Check.done(x, "now there is room", x.lend(1, 1, 10, 10));
        Check.same("lendings", x.size(4), 20);
    }

    private static void give() {
        LentMasks x = Town.of(WIDE + ";lent m to p from 3 until 6;lent m to q from 7 until 9;lent n to p from 8 until 8");
        Check.refused(x, "no such mask", x.give(3, 0), 1);
        Check.refused(x, "day 0", x.give(0, 0), 2);
        Check.refused(x, "day 21", x.give(0, 21), 2);
        Check.refused(x, "isn't lent then", x.give(0, 2), 6);
        Check.done(x, "ends ahead of it", x.give(0, 5));
        lendings(x, "ended", row(0, 0, 3, 4), row(0, 1, 7, 9), row(1, 0, 8, 8));
        Check.refused(x, "isn't lent then any more", x.give(0, 5), 6);
        Check.done(x, "all of it", x.give(0, 7));
        lendings(x, "gone", row(0, 0, 3, 4), row(1, 0, 8, 8));
        Check.done(x, "last day", x.give(0, 4));
        lendings(x, "one day is left", row(0, 0, 3, 3), row(1, 0, 8, 8));
        Check.done(x, "of one day", x.give(1, 8));
        lendings(x, "gone too", row(0, 0, 3, 3));
    }

    private static void pass() {
        LentMasks x = Town.of(WIDE + ";lent m to p from 3 until 6;lent m to q from 7 until 9;lent n to r from 6 until 8");
        Check.refused(x, "no such mask", x.pass(3, 0, 0), 1);
        Check.refused(x, "no such person", x.pass(0, 0, 3), 1);
        Check.refused(x, "day 0", x.pass(0, 0, 0), 2);
        Check.refused(x, "day 21", x.pass(0, 21, 0), 2);
        Check.refused(x, "isn't lent then", x.pass(0, 2, 1), 6);
        Check.refused(x, "it is that one's already", x.pass(0, 5, 0), 5);
        Check.refused(x, "that one has another one later", x.pass(0, 4, 2), 5);
        Check.done(x, "from the middle on", x.pass(0, 5, 1));
        lendings(x, "passed on", row(0, 0, 3, 4), row(0, 1, 5, 6), row(0, 1, 7, 9), row(1, 2, 6, 8));
        Check.done(x, "from its first day on", x.pass(0, 7, 0));
        lendings(x, "another one's", row(0, 0, 3, 4), row(0, 1, 5, 6), row(0, 0, 7, 9), row(1, 2, 6, 8));
        Check.done(x, "on its last day", x.pass(0, 9, 2));
        lendings(x, "the last day", row(0, 0, 3, 4), row(0, 1, 5, 6), row(0, 0, 7, 8), row(0, 2, 9, 9), row(1, 2, 6, 8));
        LentMasks king = Town.of("town days 2;mask k king size 5 credit 0;person p size 5 honour 60"
                + ";person q size 5 honour 59;lent k to p from 1 until 2");
        Check.refused(king, "doesn't fit", king.pass(0, 1, 1), 5);
        Check.refused(king, "its own", king.pass(0, 2, 0), 5);
    }

    private static void passWithoutRoom() {
        LentMasks x = full();
        Check.refused(x, "it would be one more", x.pass(1, 4, 2), 3);
        Check.refused(x, "no room goes ahead of its own", x.pass(1, 4, 1), 3);
        Check.refused(x, "not lent goes ahead of no room", x.pass(1, 7, 2), 6);
        Check.done(x, "from its first day on it isn't", x.pass(1, 3, 2));
        Check.same("lendings", x.size(4), 20);
        Check.given(x, "who has it", x.wearer(1, 6), 2);
    }

    private static void breaking() {
        LentMasks x = Town.of(Town.MARKET);
        Check.refused(x, "no such person", x.breaking(3, 0, true), 1);
        Check.refused(x, "day 0", x.breaking(0, 0, true), 2);
        Check.refused(x, "day 5", x.breaking(0, 5, true), 2);
        Check.refused(x, "it breaks already", x.breaking(1, 3, true), 5);
        Check.refused(x, "it doesn't", x.breaking(0, 3, false), 5);
        Check.done(x, "it does now", x.breaking(0, 3, true));
        Check.given(x, "breaks", x.breaks(0, 3), 1);
        Check.done(x, "not any more", x.breaking(1, 3, false));
        Check.given(x, "doesn't break", x.breaks(1, 3), 0);
        LentMasks all = Town.of(WIDE);
        for (int person = 0; person < 3; person++) {
            for (int day = 1; day <= 20; day++) {
                Check.done(all, "more than a text can tell", all.breaking(person, day, true));
            }
        }
        Check.given(all, "all break", all.breaks(2, 20), 1);
    }

    private static void undoAndRedo() {
        LentMasks x = Town.of(WIDE + ";lent m to p from 3 until 6");
        Check.refused(x, "nothing to undo", x.undo(), 6);
        Check.refused(x, "nothing to redo", x.redo(), 6);
        x.pass(0, 5, 1);
        x.breaking(0, 1, true);
        x.give(0, 4);
        Check.done(x, "undo give", x.undo());
        lendings(x, "as passed on", row(0, 0, 3, 4), row(0, 1, 5, 6));
        Check.done(x, "undo breaking", x.undo());
        Check.given(x, "doesn't break", x.breaks(0, 1), 0);
        Check.done(x, "undo pass", x.undo());
        lendings(x, "as told", row(0, 0, 3, 6));
        Check.refused(x, "nothing more", x.undo(), 6);
        Check.same("redoable", x.size(9), 3);
        Check.done(x, "redo pass", x.redo());
        lendings(x, "passed on again", row(0, 0, 3, 4), row(0, 1, 5, 6));
        Check.same("undoable", x.size(8), 1);
        Check.same("redoable still", x.size(9), 2);
        Check.done(x, "an act", x.breaking(2, 2, true));
        Check.same("nothing to redo behind it", x.size(9), 0);
        Check.refused(x, "redo", x.redo(), 6);
        Check.done(x, "undo it", x.undo());
        Check.done(x, "undo pass again", x.undo());
        lendings(x, "as told again", row(0, 0, 3, 6));
    }

    private static void twelveAreKept() {
        LentMasks x = Town.of(WIDE);
        for (int day = 1; day <= 20; day++) {
            x.lend(0, 0, day, day);
            Check.same("acts kept", x.size(8), Math.min(12, day));
        }
        for (int i = 0; i < 12; i++) {
            Check.done(x, "undo", x.undo());
        }
        Check.refused(x, "the thirteenth", x.undo(), 6);
        Check.same("eight stay", x.size(4), 8);
        Check.same("redoable", x.size(9), 12);
        for (int i = 0; i < 12; i++) {
            Check.done(x, "redo", x.redo());
            Check.given(x, "the last one", x.lending(x.size(4) - 1, 2), 9 + i);
        }
        Check.refused(x, "nothing more to redo", x.redo(), 6);
        Check.same("twenty again", x.size(4), 20);
    }

    private static void refusedActsChangeNothing() {
        LentMasks x = Town.of(WIDE);
        x.lend(0, 0, 1, 1);
        x.undo();
        x.lend(2, 0, 1, 1);
        x.give(0, 1);
        x.pass(0, 1, 1);
        x.breaking(0, 1, false);
        x.image();
        Check.done(x, "redo behind refused acts and an image", x.redo());
        lendings(x, "redone", row(0, 0, 1, 1));
    }

    private static void images() {
        LentMasks x = Town.of(WIDE + ";lent m to p from 3 until 6;break q on 4");
        Check.given(x, "image", x.image(), 0);
        x.give(0, 5);
        x.breaking(1, 4, false);
        x.breaking(2, 9, true);
        Check.given(x, "another", x.image(), 1);
        Check.given(x, "a third", x.image(), 2);
        Check.refused(x, "a fourth", x.image(), -1, 3);
        Check.refused(x, "no such image", x.back(3), 1);
        Check.refused(x, "no such image", x.back(-1), 1);
        x.undo();
        Check.done(x, "back", x.back(0));
        lendings(x, "as told", row(0, 0, 3, 6));
        Check.given(x, "breaks as told", x.breaks(1, 4), 1);
        Check.given(x, "breaks as told", x.breaks(2, 9), 0);
        Check.same("nothing to undo", x.size(8), 0);
        Check.same("nothing to redo", x.size(9), 0);
        Check.same("images stay", x.size(10), 3);
        Check.refused(x, "undo", x.undo(), 6);
        Check.refused(x, "redo", x.redo(), 6);
        x.lend(1, 1, 1, 20);
        Check.done(x, "forth", x.back(1));
        lendings(x, "as kept", row(0, 0, 3, 4));
        Check.given(x, "breaks as kept", x.breaks(2, 9), 1);
        Check.done(x, "back once more: an image is not changed by acts", x.back(0));
        lendings(x, "as told still", row(0, 0, 3, 6));
    }
}
