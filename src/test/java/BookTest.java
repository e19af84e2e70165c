/** Promises 1 to 5: a new object, the tape, the book, its faults. */
public final class BookTest {
    private static final String SMALL = "town days 2;work a;mask m plain size 1 credit 1;person p size 2 honour 1;";
    private static final String LENT = SMALL + "mask n foreign size 9 credit 0;person q size 9 honour 0;";

    public static void main(String[] args) {
        newObject();
        tape();
        bookAnswers();
        faultyBookLeavesTheBook();
        whereLastsUntilTheNextCall();
        forms();
        names();
        bounds();
        many();
        lacks();
        lendings();
        leftmostThenLeast();
        soundOnes();
        Check.end();
    }

    private static void newObject() {
        LentMasks x = new LentMasks();
        for (int what = 0; what <= 11; what++) {
            Check.same("size(" + what + ") of a new object", x.size(what), 0);
        }
        Check.same("trouble of a new object", x.trouble(), 0);
        Check.same("fault of a new object", x.fault(), 0);
        Check.same("where of a new object", x.where(), -1);
        Check.refused(x, "image without a book", x.image(), -1, 1);
        Check.refused(x, "back without a book", x.back(0), 1);
        Check.refused(x, "undo without a book", x.undo(), 6);
        Check.refused(x, "redo without a book", x.redo(), 6);
        Check.refused(x, "give without a book", x.give(0, 1), 1);
        Check.refused(x, "lend without a book", x.lend(0, 0, 1, 1), 1);
        Check.refused(x, "pass without a book", x.pass(0, 1, 0), 1);
        Check.refused(x, "breaking without a book", x.breaking(0, 1, true), 1);
        Check.noLed(x, 1, 0);
    }

    private static void tape() {
        LentMasks x = new LentMasks();
        for (int i = 1; i <= 45; i++) {
            Check.same("feed " + i, x.feed(0, -1, 7, 8, 9), i * 20);
        }
        Check.same("feed over 900", x.feed(0, 0, 0, 0, 0), -1);
        Check.same("bytes on the tape", x.size(11), 900);
        Check.same("feed leaves trouble alone", x.trouble(), 0);
        Check.refused(x, "book(901)", x.book(901), -1, 2);
        Check.same("the tape stays", x.size(11), 900);
        Check.refused(x, "book(-1)", x.book(-1), -1, 2);
        Check.refused(x, "book(900)", x.book(900), -1, 4);
        Check.same("the tape is empty", x.size(11), 0);
        Check.same("where", x.where(), 0);

        LentMasks order = new LentMasks();
        Check.same("highest byte first", order.feed(0x746f776e, 0x20646179, 0x73203939, 0x39202020, 0x20202020), 20);
        Check.refused(order, "town days 999", order.book(13), -1, 4);
        Check.same("its fault", order.fault(), 4);
        Check.same("its place", order.where(), 10);
    }

    private static void bookAnswers() {
        LentMasks x = new LentMasks();
        Check.given(x, "book answers its masks", Town.book(x, Town.MARKET), 3);
        Check.same("fault", x.fault(), 0);
        Check.same("where", x.where(), -1);
        x.breaking(1, 1, true);
        x.lend(0, 0, 3, 3);
        x.lend(0, 0, 4, 4);
        x.undo();
        x.image();
        Check.given(x, "another book", Town.book(x, LENT + "break p on 2"), 2);
        Check.same("no lendings of the former", x.size(4), 0);
        Check.same("nothing to undo", x.size(8), 0);
        Check.same("nothing to redo", x.size(9), 0);
        Check.same("no images", x.size(10), 0);
        Check.same("days of the new one", x.size(7), 2);
        Check.given(x, "no break of the former", x.breaks(1, 1), 0);
        Check.refused(x, "undo", x.undo(), 6);
        Check.refused(x, "back", x.back(0), 1);
    }

    private static void faultyBookLeavesTheBook() {
        LentMasks x = Town.of(Town.MARKET);
        x.lend(0, 1, 4, 4);
        x.image();
        Check.refused(x, "a faulty book", Town.book(x, "town days 3;mask"), -1, 4);
        Check.same("its fault", x.fault(), 1);
        Check.same("its place", x.where(), 16);
        Check.same("days stay", x.size(7), 4);
        Check.same("lendings stay", x.size(4), 3);
        Check.same("acts stay", x.size(8), 1);
        Check.same("images stay", x.size(10), 1);
        Check.refused(x, "book refused by a number", x.book(1), -1, 2);
        Check.same("the fault is still that of the latest read", x.fault(), 1);
        Check.same("but no place", x.where(), -1);
        Check.done(x, "undo still goes", x.undo());
        Check.given(x, "a sound book", Town.book(x, SMALL + "break p on 1"), 1);
        Check.same("no fault", x.fault(), 0);
    }

    private static void whereLastsUntilTheNextCall() {
        LentMasks x = new LentMasks();
        Town.book(x, "town days 21");
        Check.same("where", x.where(), 10);
        x.size(0);
        x.fault();
        x.trouble();
        x.feed(0, 0, 0, 0, 0);
        Check.noLed(x, 1, 1);
        Check.same("where behind calls that can't be refused", x.where(), 10);
        Check.same("trouble behind calls that can't be refused", x.trouble(), 4);
        x.fits(0, 0);
        Check.same("where behind one that can", x.where(), -1);
        Check.same("fault stays", x.fault(), 4);
    }

    private static void forms() {
        Reading.faulty("", 1, 0);
        Reading.faultyEnd("   ", 1);
        Reading.faultyEnd("town", 1);
        Reading.faultyEnd("town days", 1);
        Reading.faultyEnd("town days 3 ; ", 1);
        Reading.faulty(";town days 3", 1, 0);
        Reading.faulty("town,days 3", 1, 4);
        Reading.faulty("town days x", 1, 10);
        Reading.faulty("town days 3 4", 1, 12);
        Reading.faulty("town days 3;;", 1, 12);
        Reading.faulty("Town days 3", 1, 0);
        Reading.faulty("town days 3.", 1, 11);
        Reading.faulty("town days 0003", 1, 10);
        Reading.faulty("town\tdays 3", 1, 4);
        Reading.faulty("town days " + (char) 200, 1, 10);
        Reading.faulty("work abcdefghi", 1, 5);
        Reading.faulty("work 3", 1, 5);
        Reading.faultyEnd("work a,", 1);
        Reading.faulty("work a b", 1, 7);
        Reading.faulty("mask m odd size 1", 1, 7);
        Reading.faulty("mask m plain credit 1", 1, 13);
        Reading.faulty("mask m plain size x", 1, 18);
        Reading.faulty("mask m plain size 1 honour", 1, 20);
        Reading.faulty("person p honour", 1, 9);
        Reading.faulty("person p size 1 credit", 1, 16);
        Reading.faulty("person p size 1 honour 1 habit 2 child", 1, 33);
        Reading.faulty("work a;person p size 1 honour 1 does a habit 1", 1, 39);
        Reading.faulty("work a;person p size 1 honour 1 does a a", 1, 39);
        Reading.faultyEnd("person p size 1 honour 1 does", 1);
        Reading.faultyEnd("person p size 1 honour 1 habit", 1);
        Reading.faultyLast(SMALL + "promise m a at", 2, 1);
        Reading.faultyLast(SMALL + "promise m a on 1 fine", 4, 1);
        Reading.faultyLast(SMALL + "promise m a on 1 worth 1 effort", 6, 1);
        Reading.faultyLast(SMALL + "promise m a on 1 worth 1 fine 1 worth", 5, 1);
        Reading.faultyLast(SMALL + "promise 1", 1, 1);
        Reading.faultyLast(SMALL + "lent m from", 4, 1);
        Reading.faultyLast(SMALL + "lent m to p on", 2, 1);
        Reading.faultyLast(SMALL + "lent m to p from 1 to", 2, 1);
        Reading.faultyLast(SMALL + "seen m on 1 size", 4, 1);
        Reading.faultyLast(SMALL + "seen m on 1 hour 1 hour", 4, 1);
        Reading.faultyLast(SMALL + "seen m on 1 hour 1 size 1 child", 5, 1);
        Reading.faultyLast(SMALL + "letter m on", 2, 1);
        Reading.faultyLast(SMALL + "break p from", 4, 1);
        Reading.faultyLast(SMALL + "give", 4, 1);
        for (String word : new String[] {"town", "work", "mask", "person", "promise", "lent", "seen", "letter", "break",
            "child", "habit", "does", "size"}) {
            Reading.faulty("work " + word, 1, 5);
            Reading.faulty("mask " + word, 1, 5);
            Reading.faulty("person " + word, 1, 7);
            Reading.faultyLast(SMALL + "promise " + word, word.length(), 1);
        }
    }

    private static void names() {
        Reading.faulty("work a,a", 3, 7);
        Reading.faulty("work a;work a", 3, 12);
        Reading.faulty("work a;mask a", 3, 12);
        Reading.faulty("mask m plain size 1 credit 1;person m", 3, 36);
        Reading.faulty("person p size 1 honour 1;work p", 3, 30);
        Reading.faulty("person p size 1 honour 1;person p", 3, 32);
        Reading.faulty("town days 1;town days 2", 3, 12);
        Reading.faulty("person p size 1 honour 1 does p", 2, 30);
        Reading.faulty("work a;person p size 1 honour 1 does a,b", 2, 39);
        Reading.faulty("work a,b;person p size 1 honour 1 does a,b,a", 3, 43);
        Reading.faultyLast("work a,b,c,d,e;person p size 1 honour 1 does a,b,c,d,e,a", 1, 3);
        Reading.faultyLast("work a,b,c,d,e;person p size 1 honour 1 does a,b,c,d,e,f", 1, 2);
        Reading.faultyLast(SMALL + "promise x", 1, 2);
        Reading.faultyLast(SMALL + "promise p", 1, 2);
        Reading.faultyLast(SMALL + "promise a", 1, 2);
        Reading.faultyLast(SMALL + "promise m m", 1, 2);
        Reading.faultyLast(SMALL + "promise m b", 1, 2);
        Reading.faultyLast(SMALL + "lent p", 1, 2);
        Reading.faultyLast(SMALL + "lent m to m", 1, 2);
        Reading.faultyLast(SMALL + "seen p", 1, 2);
        Reading.faultyLast(SMALL + "letter p", 1, 2);
        Reading.faultyLast(SMALL + "letter m to p", 1, 2);
        Reading.faultyLast(SMALL + "letter m to m", 1, 3);
        Reading.faultyLast(SMALL + "break m", 1, 2);
        Reading.faultyLast(SMALL + "break p on 1;break p on 2;break p on 1", 1, 3);
    }

    private static void bounds() {
        Reading.faulty("town days 0", 4, 10);
        Reading.faulty("town days 21", 4, 10);
        Reading.faulty("mask m plain size 0", 4, 18);
        Reading.faulty("mask m plain size 10", 4, 18);
        Reading.faulty("mask m plain size 1 credit 100", 4, 27);
        Reading.faulty("person p size 0", 4, 14);
        Reading.faulty("person p size 10", 4, 14);
        Reading.faulty("person p size 1 honour 100", 4, 23);
        Reading.faulty("person p size 1 honour 1 habit 0", 4, 31);
        Reading.faulty("person p size 1 honour 1 child habit 5", 4, 37);
        Reading.faultyLast(SMALL + "promise m a on 0", 1, 4);
        Reading.faultyLast(SMALL + "promise m a on 3", 1, 4);
        Reading.faultyLast(SMALL + "promise m a on 1 worth 100", 3, 4);
        Reading.faultyLast(SMALL + "promise m a on 1 worth 1 fine 100", 3, 4);
        Reading.faultyLast(SMALL + "promise m a on 1 worth 1 fine 1 effort 100", 3, 4);
        Reading.faultyLast(SMALL + "lent m to p from 0", 1, 4);
        Reading.faultyLast(SMALL + "lent m to p from 3", 1, 4);
        Reading.faultyLast(SMALL + "lent m to p from 1 until 3", 1, 4);
        Reading.faultyLast(SMALL + "lent m to p from 2 until 1", 1, 4);
        Reading.faultyLast(SMALL + "seen m on 3", 1, 4);
        Reading.faultyLast(SMALL + "seen m on 1 hour 24", 2, 4);
        Reading.faultyLast(SMALL + "seen m on 1 hour 0 size 0", 1, 4);
        Reading.faultyLast(SMALL + "seen m on 1 hour 0 size 10", 2, 4);
        Reading.faultyLast(SMALL + "seen m on 1 hour 0 size 1 habit 5", 1, 4);
        Reading.faultyLast(LENT + "letter m to n on 3", 1, 4);
        Reading.faultyLast(SMALL + "break p on 3", 1, 4);
    }

    private static String repeated(String line, int times) {
        StringBuilder text = new StringBuilder();
        for (int i = 0; i < times; i++) {
            text.append(line.replace('#', (char) ('s' + i)).replace('%', (char) ('1' + i)));
        }
        return text.toString();
    }

    private static void many() {
        Reading.faulty("work a,b,c,d,e,f", 5, 15);
        Reading.faulty("work a,b,c,d,e;work f", 5, 20);
        Reading.faulty("work a,b,c,d,e,a", 3, 15);
        Reading.faultyLast(repeated("mask # plain size 1 credit 1;", 6) + "mask", 4, 5);
        Reading.faultyLast(repeated("person # size 1 honour 1;", 6) + "person", 6, 5);
        String names = repeated("mask # plain size 1 credit 1;", 6) + repeated("person p# size 1 honour 1;", 6);
        Reading.faultyLast(names + "work a,b,c,d,e,f", 1, 5);
        Reading.faultyLast(names + "work a,b,c,d,e,px", 2, 3);
        Reading.faultyLast(SMALL + repeated("promise m a on 1 worth 1 fine 1 effort 1;", 12) + "promise", 7, 5);
        Reading.faultyLast(SMALL.replace("2;w", "20;w")
                + repeated("lent m to p from % until %;", 9)
                + "lent m to p from 10 until 10;lent m to p from 11 until 11;lent m to p from 12 until 12;lent", 4, 5);
        Reading.faultyLast(SMALL + repeated("seen m on 1 hour 1 size 1;", 8) + "seen", 4, 5);
        Reading.faultyLast(LENT + repeated("letter m to n on 1;", 8) + "letter", 6, 5);
        Reading.faultyLast(SMALL.replace("2;w", "20;w") + repeated("break p on %;", 8) + "break", 5, 5);
    }

    private static void lacks() {
        for (String word : new String[] {"promise", "lent", "seen", "letter", "break"}) {
            Reading.faulty("work a;" + word + " m", 6, 7);
        }
        Reading.faultyEnd("town days 1", 6);
        Reading.faultyEnd("town days 1;mask m plain size 1 credit 1", 6);
        Reading.faultyEnd("town days 1;person p size 1 honour 1", 6);
        Reading.faultyEnd("mask m plain size 1 credit 1;person p size 1 honour 1", 6);
        Reading.faultyEnd("mask m plain size 1 credit 1;person p size 1 honour 1  ", 6);
        Reading.faultyEnd("work a", 6);
    }

    private static void lendings() {
        Reading.faultyLast(LENT + "lent m to q from 1 until 1", 1, 7);
        Reading.faultyLast(LENT + "lent m to p from 1 until 1;lent m to p from 1 until 2", 1, 7);
        Reading.faultyLast(LENT + "lent n to q from 1 until 2;lent n to p from 2 until 2", 1, 7);
        Reading.faultyLast(LENT + "lent m to p from 1 until 2;lent n to p from 2 until 002", 3, 7);
    }

    private static void leftmostThenLeast() {
        Reading.faulty("work town;A", 1, 5);
        Reading.faulty("town days 21 A", 4, 10);
        Reading.faulty("mask m plain size 0 size", 4, 18);
        Reading.faultyLast(LENT + "lent m to q from 1 until 3", 1, 4);
        Reading.faultyEnd("town days 1;", 1);
    }

    private static void soundOnes() {
        Reading.sound(" town days20;mask m plain size009credit 99;person p size1honour0 ", 1);
        Reading.sound("town days 1;mask plain plain size 1 credit 0;person to size 1 honour 0"
                + ";lent plain to to from 1 until 1", 1);
        Reading.sound("work abcdefgh;work a , b;person p size 1 honour 1 child habit 4 does b,abcdefgh,a"
                + ";mask on king size 9 credit 9;town days 1;promise on a on 1 worth 99 fine 0 effort 99", 1);
        Reading.sound(SMALL + "seen m on 2 hour 0 size 9;seen m on 2 hour 23 size 1 habit 4;break p on 2;break p on 1", 1);
        Reading.sound(LENT + "lent n to q from 1 until 1;lent n to p from 2 until 2;letter n to m on 1", 2);
    }
}
