/** Promises 23 to 29, sentence by sentence: sightings that just agree and just don't, false ones, letters. */
public final class EdgesWornTest {
    private static final int DAYS = 4;
    private static final String MASKS = "town days 3;mask m plain size 5 credit 0;mask n foreign size 1 credit 0"
            + ";mask d double size 5 credit 0";
    private static final String PERSONS = ";person p size 5 honour 0;person q size 6 honour 0 habit 1"
            + ";person r size 5 honour 0 habit 4";

    public static void main(String[] args) {
        personWhomItFits();
        asLentWhereItIsLent();
        wornWhereItIsSeen();
        elseOnItsPeg();
        nobodyWithTwo();
        sizesNoMoreThanOneApart();
        habitIfToldItsOwn();
        sightingsOfThisDay();
        wearersRefused();
        oddsInLowestTerms();
        oddsRefused();
        mayAsBits();
        mayRefused();
        nothingFalse();
        fewestSightings();
        wearersWithoutTheFalseOnes();
        seenTwiceInOneHour();
        doubleSeenTwice();
        leastBits();
        allSightingsFalse();
        untrueRefused();
        agreesIfItFits();
        agreesIfSizeAndHabitDo();
        agreesRefused();
        loversAreUnlike();
        loversOfALetterAtLeast();
        loversOfEitherWay();
        loversOfEachDay();
        loversTogetherInOneWearers();
        loversInOrder();
        loversRefused();
        loverRefused();
        Check.end();
    }

    private static String seen(String mask, int day, int hour, String rest) {
        return ";seen " + mask + " on " + day + " hour " + hour + " size " + rest;
    }

    private static void wearersAre(LentMasks x, String what, int day, int due, int... may) {
        Edges.given(x, what + ": wearers", () -> x.wearers(day), due);
        for (int mask = 0; mask < may.length; mask++) {
            int m = mask;
            Edges.given(x, what + ": may wear mask " + mask, () -> x.may(day, m), may[mask]);
        }
    }

    /** WEARERS: for each mask a person whom it FITS or its peg. */
    private static void personWhomItFits() {
        // By the sighting it could be any of them.
        String persons = ";person p size 7 honour 99 child;person q size 6 honour 59;person r size 5 honour 60"
                + ";person s size 5 honour 0 child";
        String[] kinds = {"plain", "child", "foreign", "double", "king"};
        int[] may = {2 + 4 + 8, 8, 15, 4 + 8, 4};
        for (int i = 0; i < kinds.length; i++) {
            LentMasks x = Town.of("town days 1;mask m " + kinds[i] + " size 5 credit 0" + persons + seen("m", 1, 0, "6"));
            wearersAre(x, kinds[i], 1, Integer.bitCount(may[i]), may[i]);
        }
        LentMasks none = Town.of("town days 1;mask m plain size 5 credit 0;person p size 7 honour 0" + seen("m", 1, 0, "6"));
        wearersAre(none, "it fits nobody", 1, 1, 0);
        Edges.given(none, "so it is false", () -> none.untrue(1), 1);
    }

    /** As lent, where it is lent. */
    private static void asLentWhereItIsLent() {
        LentMasks x = Town.of(MASKS + PERSONS + ";lent n to r from 2 until 2");
        wearersAre(x, "the day ahead", 1, 1, 0, 0, 0);
        wearersAre(x, "that day", 2, 1, 0, 4, 0);
        wearersAre(x, "the day behind", 3, 1, 0, 0, 0);
        LentMasks seen = Town.of(MASKS + PERSONS + ";lent m to p from 1 until 1" + seen("m", 1, 0, "5") + seen("m", 2, 0, "5"));
        wearersAre(seen, "seen and lent", 1, 1, 1, 0, 0);
        wearersAre(seen, "seen alone", 2, 3, 7, 0, 0);
        x.breaking(2, 2, true);
        wearersAre(x, "who breaks wears it all the same", 2, 1, 0, 4, 0);
    }

    /** Worn, where it is seen. */
    private static void wornWhereItIsSeen() {
        LentMasks x = Town.of(MASKS + PERSONS + seen("n", 1, 0, "6") + seen("m", 1, 23, "7"));
        wearersAre(x, "anybody in n, q in m", 1, 2, 2, 5, 0);
        LentMasks one = Town.of("town days 1;mask m plain size 5 credit 0;person p size 5 honour 0" + seen("m", 1, 0, "5"));
        wearersAre(one, "the only one", 1, 1, 1);
    }

    /** Else on its peg. */
    private static void elseOnItsPeg() {
        LentMasks x = Town.of(MASKS + PERSONS);
        for (int day = 1; day <= 3; day++) {
            wearersAre(x, "all on their pegs", day, 1, 0, 0, 0);
        }
        LentMasks lie = Town.of(MASKS + PERSONS + seen("m", 1, 0, "9"));
        wearersAre(lie, "seen falsely alone", 1, 1, 0, 0, 0);
        String[] masks = {"m", "n", "d"};
        int[][] may = {{7, 0, 0}, {0, 7, 0}, {0, 0, 5}};
        for (int i = 0; i < 3; i++) {
            LentMasks one = Town.of(MASKS + PERSONS + seen(masks[i], 1, 0, i < 2 ? "6" : "4"));
            wearersAre(one, "only " + masks[i] + " is seen", 1, i < 2 ? 3 : 2, may[i]);
        }
        LentMasks ends = Town.of(MASKS + PERSONS + seen("m", 1, 0, "6") + seen("d", 1, 0, "4"));
        wearersAre(ends, "the first and the last", 1, 4, 7, 0, 5);
    }

    private static void nobodyWithTwo() {
        String two = "town days 1;mask m foreign size 1 credit 0;mask n foreign size 1 credit 0"
                + ";person p size 5 honour 0;person q size 5 honour 0";
        LentMasks x = Town.of(two + seen("m", 1, 0, "5") + seen("n", 1, 0, "5"));
        wearersAre(x, "one each", 1, 2, 3, 3);
        x.lend(0, 1, 1, 1);
        wearersAre(x, "one has one", 1, 1, 2, 1);
        LentMasks peg = Town.of(two + seen("m", 1, 0, "5"));
        peg.lend(1, 0, 1, 1);
        wearersAre(peg, "who has a mask that isn't seen", 1, 1, 2, 1);
    }

    /** Sightings agree: sizes of the person and as seen no more than 1 apart. */
    private static void sizesNoMoreThanOneApart() {
        for (int size = 1; size <= 9; size++) {
            for (int person = 1; person <= 9; person++) {
                LentMasks x = Town.of("town days 1;mask m foreign size 1 credit 0;person p size " + person + " honour 0"
                        + seen("m", 1, 0, String.valueOf(size)));
                int near = Math.abs(size - person) <= 1 ? 1 : 0;
                wearersAre(x, person + " seen as " + size, 1, 1, near);
                Edges.given(x, "false or not", () -> x.untrue(1), 1 - near);
                Edges.given(x, "agrees or not", () -> x.agrees(0, 0), near);
            }
        }
    }

    /** The habit (if told) its own. */
    private static void habitIfToldItsOwn() {
        for (int habit = 0; habit <= 4; habit++) {
            for (int own = 0; own <= 4; own++) {
                LentMasks x = Town.of("town days 1;mask m foreign size 1 credit 0;person p size 5 honour 0"
                        + (own == 0 ? "" : " habit " + own) + seen("m", 1, 0, "5") + (habit == 0 ? "" : " habit " + habit));
                int alike = habit == 0 || habit == own ? 1 : 0;
                wearersAre(x, "habit " + own + " seen as " + habit, 1, 1, alike);
                Edges.given(x, "false or not", () -> x.untrue(1), 1 - alike);
                Edges.given(x, "agrees or not", () -> x.agrees(0, 0), alike);
            }
        }
    }

    /** Sightings of this DAY. */
    private static void sightingsOfThisDay() {
        LentMasks x = Town.of(MASKS + PERSONS + seen("m", 1, 0, "7") + seen("m", 2, 0, "4") + seen("m", 3, 0, "9"));
        wearersAre(x, "the first day", 1, 1, 2, 0, 0);
        wearersAre(x, "the second", 2, 2, 5, 0, 0);
        wearersAre(x, "the last", 3, 1, 0, 0, 0);
        int[] due = {0, 0, 4};
        for (int day = 1; day <= 3; day++) {
            int d = day;
            Edges.given(x, "untrue on " + day, () -> x.untrue(d), due[day - 1]);
        }
    }

    /** Promise 23: NONE: 1 (no BOOK); 2. */
    private static void wearersRefused() {
        LentMasks x = Town.of(Town.MARKET);
        Edges.refused(x, "wearers", Edges.offDays(DAYS), x::wearers, -1, 2);
        Edges.given(x, "the first day", () -> x.wearers(1), 1);
        Edges.given(x, "the last day", () -> x.wearers(4), 1);
    }

    private static String sixOfEach(int seen) {
        StringBuilder s = new StringBuilder("town days 1");
        for (int i = 0; i < 6; i++) {
            char c = (char) ('a' + i);
            s.append(";mask m").append(c).append(" foreign size 1 credit 0;person p").append(c).append(" size 5 honour 0");
            s.append(i < seen ? seen("m" + c, 1, 0, "5") : "");
        }
        return s.toString();
    }

    /** Promise 24: ODDS in lowest terms: the upper WHOLE, or the lower. */
    private static void oddsInLowestTerms() {
        int[] all = {1, 6, 30, 120, 360, 720, 720};
        for (int seen = 0; seen <= 6; seen++) {
            LentMasks x = Town.of(sixOfEach(seen));
            Edges.given(x, seen + " masks seen", () -> x.wearers(1), all[seen]);
            boolean isSeen = seen > 0;
            Edges.given(x, "the first in the first, upper", () -> x.odds(1, 0, 0, false), isSeen ? 1 : 0);
            Edges.given(x, "the first in the first, lower", () -> x.odds(1, 0, 0, true), isSeen ? 6 : 1);
            boolean isLast = seen == 6;
            Edges.given(x, "the last in the last, upper", () -> x.odds(1, 5, 5, false), isLast ? 1 : 0);
            Edges.given(x, "the last in the last, lower", () -> x.odds(1, 5, 5, true), isLast ? 6 : 1);
        }
        // p or q in m; p, r or s in n: of the five ways two have p in m.
        LentMasks x = Town.of("town days 1;mask m plain size 5 credit 0;mask n foreign size 1 credit 0;person p size 5 honour 0"
                + ";person q size 4 honour 0;person r size 7 honour 0;person s size 6 honour 0" + seen("m", 1, 0, "4")
                + seen("n", 1, 0, "6"));
        Edges.given(x, "wearers", () -> x.wearers(1), 2 + 3);
        Edges.given(x, "2 by 5, upper", () -> x.odds(1, 0, 0, false), 2);
        Edges.given(x, "2 by 5, lower", () -> x.odds(1, 0, 0, true), 5);
        Edges.given(x, "3 by 5, upper", () -> x.odds(1, 0, 1, false), 3);
        Edges.given(x, "0 by 5, upper", () -> x.odds(1, 0, 2, false), 0);
        Edges.given(x, "0 by 5 is 0 by 1", () -> x.odds(1, 0, 2, true), 1);
    }

    /** NONE: 1; 2; 6 (no WEARERS): without the false sightings there always are some. */
    private static void oddsRefused() {
        LentMasks x = Town.of(Town.MARKET);
        Edges.refused(x, "odds, mask", Edges.off(3), n -> x.odds(1, n, 0, false), -1, 1);
        Edges.refused(x, "odds, person", Edges.off(3), n -> x.odds(1, 0, n, true), -1, 1);
        Edges.refused(x, "odds, day", Edges.offDays(DAYS), n -> x.odds(n, 0, 0, true), -1, 2);
        Edges.refused(x, "odds, mask and day", Edges.offDays(DAYS), n -> x.odds(n, 3, 0, false), -1, 1);
        Edges.refused(x, "odds, person and day", Edges.offDays(DAYS), n -> x.odds(n, 0, 3, false), -1, 1);
        Edges.given(x, "the last of all", () -> x.odds(4, 2, 2, true), 1);
        LentMasks lie = Town.of(MASKS + PERSONS + seen("m", 1, 0, "9"));
        Edges.given(lie, "a false sighting leaves one wearers", () -> lie.odds(1, 0, 0, true), 1);
    }

    /** Promise 25: Persons that wear a mask in some WEARERS, as bits. */
    private static void mayAsBits() {
        LentMasks x = Town.of(sixOfEach(6));
        for (int mask = 0; mask < 6; mask++) {
            int m = mask;
            Edges.given(x, "anybody", () -> x.may(1, m), 63);
        }
        x.lend(5, 5, 1, 1);
        Edges.given(x, "the last one in the last", () -> x.may(1, 5), 32);
        Edges.given(x, "anybody else in the first", () -> x.may(1, 0), 31);
        // Anybody could be in n by its looks, but both others are needed for m and d.
        LentMasks y = Town.of(MASKS + PERSONS.replace(" habit 1", "") + seen("n", 1, 0, "5") + seen("m", 1, 0, "7")
                + seen("d", 1, 0, "5 habit 4"));
        wearersAre(y, "by all that fits", 1, 1, 2, 1, 4);
    }

    /** NONE: 1; 2. */
    private static void mayRefused() {
        LentMasks x = Town.of(Town.MARKET);
        Edges.refused(x, "may, mask", Edges.off(3), n -> x.may(1, n), -1, 1);
        Edges.refused(x, "may, day", Edges.offDays(DAYS), n -> x.may(n, 0), -1, 2);
        Edges.refused(x, "may, both", Edges.offDays(DAYS), n -> x.may(n, 3), -1, 1);
        Edges.given(x, "the last of both", () -> x.may(4, 2), 0);
    }

    private static void untrueIs(String what, String lines, int due) {
        LentMasks x = Town.of(MASKS + PERSONS + lines);
        Edges.given(x, what, () -> x.untrue(1), due);
    }

    private static void nothingFalse() {
        untrueIs("no sightings", "", 0);
        untrueIs("none of this day", seen("m", 2, 0, "9"), 0);
        untrueIs("one that agrees", seen("m", 1, 0, "4"), 0);
        untrueIs("one as lent", seen("m", 1, 0, "4") + ";lent m to r from 1 until 1", 0);
    }

    /** FALSE of a DAY: the fewest sightings without which there are some WEARERS. */
    private static void fewestSightings() {
        untrueIs("one of one", seen("m", 1, 0, "9"), 1);
        untrueIs("one of two, the second", seen("m", 1, 0, "5") + seen("m", 1, 1, "9"), 2);
        untrueIs("one against two, though its bit is more", seen("m", 1, 0, "7") + seen("m", 1, 1, "7")
                + seen("m", 1, 2, "4"), 4);
        untrueIs("two against three", seen("m", 1, 0, "4") + seen("m", 1, 1, "7") + seen("m", 1, 2, "7") + seen("m", 1, 3, "4")
                + seen("m", 1, 4, "7"), 1 + 8);
        untrueIs("as lent, all three", seen("m", 1, 0, "7") + seen("m", 1, 1, "7") + seen("m", 1, 2, "7") + seen("m", 1, 3, "4")
                + ";lent m to p from 1 until 1", 7);
        untrueIs("only q can be in both", seen("m", 1, 0, "7") + seen("n", 1, 1, "7") + seen("n", 1, 2, "7"), 1);
    }

    private static void wearersWithoutTheFalseOnes() {
        LentMasks two = Town.of(MASKS + PERSONS + seen("m", 1, 0, "7") + seen("m", 1, 1, "7") + seen("m", 1, 2, "4")
                + seen("m", 1, 3, "4") + seen("m", 1, 4, "4"));
        Edges.given(two, "two against three", () -> two.untrue(1), 3);
        wearersAre(two, "the three are true", 1, 2, 5, 0, 0);
        Edges.given(two, "odds", () -> two.odds(1, 0, 2, true), 2);
        LentMasks three = Town.of(MASKS + PERSONS + seen("m", 1, 0, "4") + seen("m", 1, 1, "7") + seen("m", 1, 2, "7"));
        Edges.given(three, "one against two", () -> three.untrue(1), 1);
        wearersAre(three, "the two are true", 1, 1, 2, 0, 0);
    }

    /** And no mask but a double one was seen twice in one hour. */
    private static void seenTwiceInOneHour() {
        untrueIs("twice", seen("m", 1, 5, "5") + seen("m", 1, 5, "5"), 1);
        untrueIs("thrice", seen("m", 1, 5, "5").repeat(3), 3);
        untrueIs("eight times", seen("m", 1, 5, "5").repeat(8), 127);
        untrueIs("the hour behind", seen("m", 1, 5, "5") + seen("m", 1, 6, "5"), 0);
        untrueIs("the first and the last hour", seen("m", 1, 0, "5") + seen("m", 1, 23, "5"), 0);
        untrueIs("on another day", seen("m", 1, 5, "5") + seen("m", 2, 5, "5"), 0);
        untrueIs("another mask", seen("m", 1, 5, "5") + seen("n", 1, 5, "5"), 0);
        untrueIs("two hours", seen("m", 1, 5, "5") + seen("m", 1, 6, "5") + seen("m", 1, 6, "5") + seen("m", 1, 5, "5"), 3);
        untrueIs("lent or not", seen("m", 1, 5, "5").repeat(2) + ";lent m to p from 1 until 1", 1);
        untrueIs("the one that doesn't agree", seen("m", 1, 5, "5") + seen("m", 1, 5, "9"), 2);
        for (String kind : new String[] {"plain", "foreign"}) {
            untrueIs(kind, ";mask x " + kind + " size 5 credit 0" + seen("x", 1, 5, "5").repeat(2), 1);
        }
        untrueIs("king", ";mask x king size 5 credit 0;person s size 5 honour 60" + seen("x", 1, 5, "5").repeat(2), 1);
        untrueIs("child", ";mask x child size 5 credit 0;person s size 5 honour 0 child" + seen("x", 1, 5, "5").repeat(2), 1);
    }

    private static void doubleSeenTwice() {
        untrueIs("twice", seen("d", 1, 5, "5").repeat(2), 0);
        untrueIs("eight times", seen("d", 1, 5, "5").repeat(8), 0);
        untrueIs("by one head all the same", seen("d", 1, 5, "4 habit 4") + seen("d", 1, 5, "6")
                + seen("d", 1, 5, "5 habit 1"), 4);
    }

    /** Of like ones the least bits. */
    private static void leastBits() {
        untrueIs("one of two", seen("m", 1, 0, "7") + seen("m", 1, 1, "4"), 1);
        untrueIs("one of two, turned", seen("m", 1, 0, "4") + seen("m", 1, 1, "7"), 1);
        untrueIs("two of four", seen("m", 1, 0, "7") + seen("m", 1, 1, "4") + seen("m", 1, 2, "4") + seen("m", 1, 3, "7"), 6);
        untrueIs("two of four, turned", seen("m", 1, 0, "4") + seen("m", 1, 1, "4") + seen("m", 1, 2, "7")
                + seen("m", 1, 3, "7"), 3);
        untrueIs("the least, not the first", seen("m", 2, 0, "9") + seen("m", 1, 0, "4") + seen("m", 1, 1, "7"), 2);
    }

    /** Promise 26: as bits of sightings; -2 if nothing does: without any sighting there always are some WEARERS. */
    private static void allSightingsFalse() {
        untrueIs("all eight", seen("m", 1, 5, "9").repeat(8), 255);
        untrueIs("all but the first", seen("m", 1, 5, "5") + seen("m", 1, 6, "9").repeat(7), 254);
        untrueIs("the last alone", seen("m", 1, 5, "5") + seen("m", 2, 6, "9").repeat(6) + seen("m", 1, 6, "9"), 128);
        LentMasks full = Town.of(sixOfEach(6));
        for (int i = 0; i < 6; i++) {
            full.lend(i, 5 - i, 1, 1);
        }
        Edges.given(full, "as lent, all of them", () -> full.untrue(1), 0);
        Edges.given(full, "one wearers", () -> full.wearers(1), 1);
    }

    /** NONE: 1 (no BOOK); 2. */
    private static void untrueRefused() {
        LentMasks x = Town.of(Town.MARKET);
        Edges.refused(x, "untrue", Edges.offDays(DAYS), x::untrue, -1, 2);
        Edges.given(x, "the first day", () -> x.untrue(1), 0);
        Edges.given(x, "the last day", () -> x.untrue(4), 0);
    }

    /** Promise 27: Whether a sighting agrees with a person (FITS ..). */
    private static void agreesIfItFits() {
        for (int size = 1; size <= 9; size++) {
            LentMasks x = Town.of("town days 1;mask m plain size 5 credit 0;mask d double size 5 credit 0"
                    + ";mask k king size 5 credit 0;mask c child size 5 credit 0;person p size " + size + " honour 60"
                    + ";person q size " + size + " honour 59 child" + seen("m", 1, 0, size + "") + seen("d", 1, 0, size + "")
                    + seen("k", 1, 0, size + "") + seen("c", 1, 0, size + ""));
            int near = size >= 4 && size <= 6 ? 1 : 0;
            int[][] due = {{near, near}, {size == 5 ? 1 : 0, size == 5 ? 1 : 0}, {near, 0}, {0, near}};
            for (int i = 0; i < 4; i++) {
                int s = i;
                Edges.given(x, "agrees(" + i + ", 0) of size " + size, () -> x.agrees(s, 0), due[i][0]);
                Edges.given(x, "agrees(" + i + ", 1) of size " + size, () -> x.agrees(s, 1), due[i][1]);
            }
        }
    }

    /** (.. size, habit): 1, 0; lendings and other sightings don't matter. */
    private static void agreesIfSizeAndHabitDo() {
        LentMasks x = Town.of(MASKS + PERSONS + seen("n", 1, 0, "7 habit 1") + seen("n", 1, 0, "7 habit 4") + seen("n", 1, 0, "6")
                + seen("n", 3, 0, "4 habit 4") + ";lent n to p from 1 until 3");
        int[][] due = {{0, 1, 0}, {0, 0, 0}, {1, 1, 1}, {0, 0, 1}};
        for (int i = 0; i < 4; i++) {
            for (int p = 0; p < 3; p++) {
                int s = i;
                int q = p;
                Edges.given(x, "agrees(" + i + ", " + p + ")", () -> x.agrees(s, q), due[i][p]);
            }
        }
    }

    /** NONE: 1. */
    private static void agreesRefused() {
        LentMasks x = Town.of(MASKS + PERSONS + seen("n", 1, 0, "5") + seen("n", 2, 0, "5"));
        Edges.refused(x, "agrees, sighting", Edges.off(2), n -> x.agrees(n, 0), -1, 1);
        Edges.refused(x, "agrees, person", Edges.off(3), n -> x.agrees(0, n), -1, 1);
        Edges.given(x, "the last of both", () -> x.agrees(1, 2), 1);
        LentMasks none = Town.of(MASKS + PERSONS);
        Edges.refused(none, "agrees without sightings", Edges.off(0), n -> none.agrees(n, 0), -1, 1);
    }

    private static final String PAIR = "town days 3;mask m foreign size 1 credit 0;mask n foreign size 1 credit 0"
            + ";mask o foreign size 1 credit 0;person p size 5 honour 0;person q size 6 honour 0;person r size 7 honour 0";

    private static void loversAre(LentMasks x, String what, int mask, int other, int[]... due) {
        Edges.given(x, what + ": lovers", () -> x.lovers(mask, other), due.length);
        for (int i = 0; i < due.length; i++) {
            int n = i;
            Edges.given(x, what + ": first of " + i, () -> x.lover(mask, other, n, false), due[i][0]);
            Edges.given(x, what + ": second of " + i, () -> x.lover(mask, other, n, true), due[i][1]);
        }
        int[] off = Edges.off(due.length);
        Edges.refused(x, what + ": first", off, n -> x.lover(mask, other, n, false), -1, 1);
        Edges.refused(x, what + ": second", off, n -> x.lover(mask, other, n, true), -1, 1);
    }

    private static int[] pair(int first, int second) {
        return new int[] {first, second};
    }

    /** LOVERS of two masks: pairs of unlike persons, the one in the first mask, the other one in the second. */
    private static void loversAreUnlike() {
        LentMasks x = Town.of(PAIR + seen("m", 1, 0, "8") + seen("n", 1, 1, "8") + ";letter m to n on 1");
        loversAre(x, "r can't be both, so the one sighting is false", 0, 1);
        LentMasks y = Town.of(PAIR + seen("m", 1, 0, "8") + seen("n", 1, 1, "7") + ";letter m to n on 1");
        loversAre(y, "r, so q", 0, 1, pair(2, 1));
        loversAre(y, "the other way", 1, 0, pair(1, 2));
    }

    /** There is one such letter at least. */
    private static void loversOfALetterAtLeast() {
        String lent = PAIR + ";lent m to p from 1 until 3;lent n to q from 1 until 3;lent o to r from 1 until 3";
        loversAre(Town.of(lent), "no letter", 0, 1);
        LentMasks x = Town.of(lent + ";letter m to o on 1");
        loversAre(x, "a letter to another", 0, 1);
        loversAre(x, "a letter", 0, 2, pair(0, 2));
        loversAre(x, "none between these", 1, 2);
        for (String letter : new String[] {"m to o", "o to m", "n to o", "o to n"}) {
            loversAre(Town.of(lent + ";letter " + letter + " on 1"), "only " + letter, 0, 1);
            loversAre(Town.of(lent + ";letter " + letter + " on 1"), "only " + letter + ", turned", 1, 0);
        }
    }

    /** Either way. */
    private static void loversOfEitherWay() {
        String lent = PAIR + ";lent m to p from 1 until 3;lent n to q from 1 until 3";
        for (String letter : new String[] {";letter m to n on 2", ";letter n to m on 2"}) {
            LentMasks x = Town.of(lent + letter);
            loversAre(x, letter, 0, 1, pair(0, 1));
            loversAre(x, letter + ", turned", 1, 0, pair(1, 0));
        }
    }

    /** So in some WEARERS of each DAY of a letter between these two. */
    private static void loversOfEachDay() {
        String lent = PAIR + ";lent m to p from 1 until 2;lent n to q from 1 until 3;lent m to r from 3 until 3";
        loversAre(Town.of(lent + ";letter m to n on 1;letter n to m on 2"), "the same on both days", 0, 1, pair(0, 1));
        loversAre(Town.of(lent + ";letter m to n on 1;letter m to n on 3"), "another one on the last", 0, 1);
        loversAre(Town.of(lent + ";letter m to n on 3"), "the last alone", 0, 1, pair(2, 1));
        loversAre(Town.of(lent + ";letter m to n on 1;letter m to o on 3"), "a letter to another doesn't matter", 0, 1,
                pair(0, 1));
        loversAre(Town.of(PAIR + ";lent m to p from 1 until 1;letter m to n on 1"), "one is on its peg", 0, 1);
        loversAre(Town.of(PAIR + ";lent n to p from 1 until 1;letter m to n on 1"), "the other one is", 0, 1);
        // Eight letters on as many days, and on one of them another one has it.
        StringBuilder eight = new StringBuilder(PAIR.replace("days 3", "days 20") + ";lent m to p from 1 until 20"
                + ";lent n to q from 1 until 20");
        for (int day = 13; day <= 20; day++) {
            eight.append(";letter m to n on ").append(day);
        }
        LentMasks x = Town.of(eight.toString());
        loversAre(x, "eight days", 0, 1, pair(0, 1));
        x.pass(1, 20, 2);
        loversAre(x, "seven of eight days", 0, 1);
    }

    private static void loversTogetherInOneWearers() {
        // p or q in m, q or r in n: q and r, p and q, p and r, but not q and q.
        LentMasks x = Town.of(PAIR.replace("size 7", "size 8") + seen("m", 1, 0, "5") + seen("n", 1, 1, "7")
                + ";letter m to n on 1");
        loversAre(x, "not q and q", 0, 1, pair(0, 1), pair(0, 2), pair(1, 2));
        // A third mask that only q can wear leaves p and r.
        LentMasks y = Town.of(PAIR.replace("size 7", "size 8").replace("size 6 honour 0", "size 6 honour 0 habit 1")
                + seen("m", 1, 0, "5") + seen("n", 1, 1, "7") + seen("o", 1, 1, "6 habit 1") + ";letter m to n on 1");
        loversAre(y, "p and r alone", 0, 1, pair(0, 2));
    }

    /** In order of the first, then the second. */
    private static void loversInOrder() {
        LentMasks x = Town.of(PAIR.replace("size 6", "size 5").replace("size 7", "size 5") + seen("m", 1, 0, "5")
                + seen("n", 1, 0, "5") + ";letter n to m on 1");
        int[][] all = {pair(0, 1), pair(0, 2), pair(1, 0), pair(1, 2), pair(2, 0), pair(2, 1)};
        loversAre(x, "all pairs", 0, 1, all);
        loversAre(x, "all pairs, turned", 1, 0, all);
        LentMasks six = Town.of(sixOfEach(6) + ";letter ma to mf on 1");
        Edges.given(six, "six times five", () -> six.lovers(0, 5), 30);
        Edges.given(six, "the last", () -> six.lover(0, 5, 29, false), 5);
        Edges.given(six, "and its other one", () -> six.lover(0, 5, 29, true), 4);
        Edges.refused(six, "one more", Edges.off(30), n -> six.lover(0, 5, n, true), -1, 1);
    }

    /** Promise 28: NONE: 1 (masks; one twice). */
    private static void loversRefused() {
        LentMasks x = Town.of(PAIR + ";letter m to n on 1");
        Edges.refused(x, "lovers, mask", Edges.off(3), n -> x.lovers(n, 0), -1, 1);
        Edges.refused(x, "lovers, other", Edges.off(3), n -> x.lovers(0, n), -1, 1);
        Edges.refused(x, "lovers, one twice", new int[] {-1, 0, 1, 2, 3}, n -> x.lovers(n, n), -1, 1);
    }

    /** Promise 29: NONE: 1 (masks, i). */
    private static void loverRefused() {
        LentMasks x = Town.of(PAIR + ";letter m to n on 1;lent m to p from 1 until 1;lent n to q from 1 until 1");
        for (boolean second : new boolean[] {false, true}) {
            Edges.refused(x, "lover, mask", Edges.off(3), n -> x.lover(n, 0, 0, second), -1, 1);
            Edges.refused(x, "lover, other", Edges.off(3), n -> x.lover(0, n, 0, second), -1, 1);
            Edges.refused(x, "lover, one twice", new int[] {-1, 0, 1, 2, 3}, n -> x.lover(n, n, 0, second), -1, 1);
            Edges.refused(x, "lover, i", Edges.off(1), n -> x.lover(0, 1, n, second), -1, 1);
            Edges.refused(x, "lover of none", Edges.off(0), n -> x.lover(0, 2, n, second), -1, 1);
        }
        Edges.given(x, "the only one", () -> x.lover(0, 1, 0, false), 0);
    }
}
