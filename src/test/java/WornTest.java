/** Promises 23 to 29: wearers, odds, may, untrue, agrees, lovers. */
public final class WornTest {
    private static final String MASKS = "town days 3"
            + ";mask m plain size 3 credit 0;mask n foreign size 9 credit 1;mask d double size 3 credit 2";
    private static final String PERSONS = ";person p size 3 honour 1;person q size 4 honour 2 habit 1"
            + ";person r size 3 honour 3 child";

    public static void main(String[] args) {
        unseen();
        seenAndFree();
        seenAndLent();
        twiceInAnHour();
        leastBits();
        agreement();
        manyWearers();
        lovers();
        refusals();
        Check.end();
    }

    private static void unseen() {
        LentMasks x = Town.of(MASKS + PERSONS + ";lent m to q from 1 until 2");
        Check.given(x, "as lent, and nothing else", x.wearers(1), 1);
        Check.given(x, "all on their pegs", x.wearers(3), 1);
        Check.given(x, "the one it is lent to", x.may(1, 0), 2);
        Check.given(x, "on its peg", x.may(1, 1), 0);
        Check.given(x, "nothing is false", x.untrue(1), 0);
        Check.given(x, "odds of a sure one", x.odds(1, 0, 1, false), 1);
        Check.given(x, "odds of a sure one, lower", x.odds(1, 0, 1, true), 1);
        Check.given(x, "odds of nobody's mask", x.odds(1, 1, 0, false), 0);
        Check.given(x, "odds of nobody's mask, lower", x.odds(1, 1, 0, true), 1);
    }

    private static void seenAndFree() {
        LentMasks x = Town.of(MASKS + PERSONS + ";seen n on 2 hour 1 size 5;seen m on 2 hour 1 size 2");
        Check.given(x, "a foreign mask is q's by its size", x.may(2, 1), 2);
        Check.given(x, "a plain one p's or r's", x.may(2, 0), 5);
        Check.given(x, "two wearers", x.wearers(2), 2);
        Check.given(x, "odds of half", x.odds(2, 0, 2, false), 1);
        Check.given(x, "odds of half, lower", x.odds(2, 0, 2, true), 2);
        Check.given(x, "the unseen one is on its peg", x.may(2, 2), 0);
        Check.given(x, "another day", x.wearers(1), 1);
        Check.given(x, "another day's may", x.may(1, 1), 0);
        x.lend(2, 0, 2, 2);
        Check.given(x, "who has another one isn't it", x.may(2, 0), 4);
        x.lend(1, 1, 3, 3);
        Check.given(x, "lendings of other days don't matter", x.wearers(2), 1);
    }

    private static void seenAndLent() {
        LentMasks x = Town.of(MASKS + PERSONS + ";seen n on 1 hour 6 size 4 habit 1;lent n to q from 1 until 1");
        Check.given(x, "a sighting that agrees", x.untrue(1), 0);
        x.pass(1, 1, 0);
        Check.given(x, "a habit that isn't its own", x.untrue(1), 1);
        Check.given(x, "it is worn as lent all the same", x.may(1, 1), 1);
        Check.given(x, "one wearers", x.wearers(1), 1);
        x.give(1, 1);
        x.lend(0, 1, 1, 1);
        Check.given(x, "nobody else can be it", x.untrue(1), 1);
        Check.given(x, "what is falsely seen hangs on its peg", x.may(1, 1), 0);
    }

    private static void twiceInAnHour() {
        LentMasks x = Town.of(MASKS + PERSONS
                + ";seen m on 1 hour 5 size 3;seen m on 1 hour 5 size 3;seen d on 1 hour 5 size 3"
                + ";seen d on 1 hour 5 size 3;seen n on 1 hour 6 size 4 habit 1;seen n on 2 hour 6 size 4 habit 1"
                + ";seen n on 1 hour 7 size 4 habit 1");
        Check.given(x, "one of m's two", x.untrue(1), 1);
        Check.given(x, "another day is another hour", x.untrue(2), 0);
        Check.given(x, "wearers", x.wearers(1), 2);
        x.lend(1, 0, 1, 1);
        Check.given(x, "and two by their habit", x.untrue(1), 1 + 16 + 64);
        Check.done(x, "undo", x.undo());
        Check.given(x, "as before", x.untrue(1), 1);
    }

    private static void leastBits() {
        LentMasks x = Town.of(MASKS + ";person p size 3 honour 1"
                + ";seen m on 1 hour 1 size 3;seen n on 1 hour 1 size 3;seen d on 1 hour 1 size 3"
                + ";seen d on 1 hour 2 size 3;seen m on 2 hour 1 size 3;seen m on 2 hour 2 size 6"
                + ";seen m on 2 hour 3 size 4;seen m on 3 hour 1 size 6");
        Check.given(x, "p was in d, as that was seen more often", x.untrue(1), 3);
        Check.given(x, "its mask", x.may(1, 2), 1);
        Check.given(x, "what doesn't agree", x.untrue(2), 32);
        Check.given(x, "all of a day", x.untrue(3), 128);
        StringBuilder eight = new StringBuilder(MASKS + PERSONS);
        for (int i = 0; i < 8; i++) {
            eight.append(";seen m on 1 hour 1 size 9");
        }
        LentMasks all = Town.of(eight.toString());
        Check.given(all, "all eight", all.untrue(1), 255);
        Check.given(all, "and one wearers without them", all.wearers(1), 1);
        LentMasks two = Town.of(MASKS + PERSONS + ";seen m on 1 hour 1 size 4;seen m on 1 hour 2 size 4 habit 2"
                + ";seen m on 1 hour 3 size 2;seen m on 1 hour 4 size 5");
        Check.given(two, "the fewest, and of these the least bits", two.untrue(1), 2 + 4);
        Check.given(two, "so it was q", two.may(1, 0), 2);
    }

    private static void agreement() {
        LentMasks x = Town.of(Town.MARKET + ";seen ox on 1 hour 9 size 5;seen ox on 1 hour 9 size 6"
                + ";seen ox on 1 hour 9 size 3 habit 2;seen bear on 1 hour 9 size 4;seen cat on 1 hour 9 size 4 habit 1");
        int[][] due = {{1, 1, 0}, {1, 0, 0}, {0, 1, 0}, {1, 0, 0}, {0, 0, 0}};
        for (int i = 0; i < 5; i++) {
            for (int p = 0; p < 3; p++) {
                Check.given(x, "agrees(" + i + ", " + p + ")", x.agrees(i, p), due[i][p]);
            }
        }
        Check.refused(x, "agrees(5, 0)", x.agrees(5, 0), -1, 1);
        Check.refused(x, "agrees(-1, 0)", x.agrees(-1, 0), -1, 1);
        Check.refused(x, "agrees(0, 3)", x.agrees(0, 3), -1, 1);
        Check.refused(x, "agrees(0, -1)", x.agrees(0, -1), -1, 1);
    }

    private static void manyWearers() {
        StringBuilder text = new StringBuilder("town days 1");
        for (char c = 'a'; c <= 'f'; c++) {
            text.append(";mask ").append(c).append(" foreign size 1 credit 0");
            text.append(";person ").append((char) (c + 10)).append(" size 5 honour 0");
            text.append(";seen ").append(c).append(" on 1 hour 1 size 5");
        }
        LentMasks x = Town.of(text.toString());
        Check.given(x, "six in six", x.wearers(1), 720);
        Check.given(x, "odds of one in six", x.odds(1, 3, 4, false), 1);
        Check.given(x, "odds of one in six, lower", x.odds(1, 3, 4, true), 6);
        Check.given(x, "anybody", x.may(1, 5), 63);
        x.lend(0, 5, 1, 1);
        Check.given(x, "five in five", x.wearers(1), 120);
        Check.given(x, "anybody else", x.may(1, 5), 31);
    }

    private static void lovers() {
        LentMasks x = Town.of(MASKS + PERSONS + ";seen m on 1 hour 5 size 3;seen d on 1 hour 5 size 3"
                + ";seen m on 2 hour 5 size 3;letter m to d on 1;letter n to m on 2;letter m to d on 1");
        int[][] due = {{0, 2}, {1, 0}, {1, 2}, {2, 0}};
        Check.given(x, "lovers(0, 2)", x.lovers(0, 2), 4);
        Check.given(x, "lovers(2, 0)", x.lovers(2, 0), 4);
        for (int i = 0; i < 4; i++) {
            Check.given(x, "first of " + i, x.lover(0, 2, i, false), due[i][0]);
            Check.given(x, "second of " + i, x.lover(0, 2, i, true), due[i][1]);
        }
        int[][] turned = {{0, 1}, {0, 2}, {2, 0}, {2, 1}};
        for (int i = 0; i < 4; i++) {
            Check.given(x, "first of " + i + ", turned", x.lover(2, 0, i, false), turned[i][0]);
            Check.given(x, "second of " + i + ", turned", x.lover(2, 0, i, true), turned[i][1]);
        }
        Check.given(x, "nobody in n on 2", x.lovers(1, 0), 0);
        Check.given(x, "no letter between these", x.lovers(1, 2), 0);
        x.lend(1, 0, 2, 2);
        Check.given(x, "p in n, q or r in m", x.lovers(1, 0), 2);
        Check.refused(x, "lover(0, 2, 4, true)", x.lover(0, 2, 4, true), -1, 1);
        Check.refused(x, "lover(0, 2, -1, true)", x.lover(0, 2, -1, true), -1, 1);
        Check.refused(x, "lover(1, 2, 0, true)", x.lover(1, 2, 0, true), -1, 1);

        LentMasks days = Town.of(MASKS + PERSONS + ";lent d to p from 1 until 1;seen m on 1 hour 5 size 3"
                + ";seen m on 2 hour 5 size 5;seen d on 2 hour 5 size 3;letter m to d on 1;letter d to m on 2");
        Check.given(days, "on each day of a letter, either way", days.lovers(0, 2), 1);
        Check.given(days, "q in m", days.lover(0, 2, 0, false), 1);
        Check.given(days, "p in d", days.lover(0, 2, 0, true), 0);
    }

    private static void refusals() {
        LentMasks none = new LentMasks();
        Check.refused(none, "wearers without a book", none.wearers(1), -1, 1);
        Check.refused(none, "untrue without a book", none.untrue(1), -1, 1);
        LentMasks x = Town.of(Town.MARKET);
        for (int day : new int[] {-1, 0, 5}) {
            Check.refused(x, "wearers(" + day + ")", x.wearers(day), -1, 2);
            Check.refused(x, "untrue(" + day + ")", x.untrue(day), -1, 2);
            Check.refused(x, "may(" + day + ", 0)", x.may(day, 0), -1, 2);
            Check.refused(x, "may(" + day + ", 3)", x.may(day, 3), -1, 1);
            Check.refused(x, "odds(" + day + ", 0, 0)", x.odds(day, 0, 0, true), -1, 2);
            Check.refused(x, "odds(" + day + ", 3, 0)", x.odds(day, 3, 0, true), -1, 1);
        }
        Check.refused(x, "odds(1, 0, 3)", x.odds(1, 0, 3, true), -1, 1);
        Check.refused(x, "odds(1, -1, 0)", x.odds(1, -1, 0, false), -1, 1);
        Check.refused(x, "lovers(0, 0)", x.lovers(0, 0), -1, 1);
        Check.refused(x, "lovers(0, 3)", x.lovers(0, 3), -1, 1);
        Check.refused(x, "lovers(-1, 0)", x.lovers(-1, 0), -1, 1);
        Check.refused(x, "lover(1, 1, 0, false)", x.lover(1, 1, 0, false), -1, 1);
        Check.refused(x, "lover(3, 1, 0, false)", x.lover(3, 1, 0, false), -1, 1);
    }
}
