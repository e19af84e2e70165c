/**
 * The faults of a text, sentence by sentence, each at its place and just beside it.
 * In a faulty text a ^ stands ahead of the place of its fault.
 */
public final class EdgesFaultTest {
    private static final String TOWN = "town days 5;work a;mask m plain size 5 credit 0;mask n foreign size 5 credit 0"
            + ";person p size 5 honour 0;person q size 4 honour 0";

    public static void main(String[] args) {
        firstFromTheLeft();
        leastNumberOfOnePlace();
        firstByteThatBeginsNoToken();
        tokenWithWhichNoBookGoesOn();
        wordByItsLetters();
        theEnd();
        nameNotTold();
        nameOfAnotherSort();
        nameToldAgain();
        workOfAPersonToldAgain();
        secondMaskIsTheFirst();
        breakToldAgain();
        secondTown();
        wholeOutOfBounds();
        lineMoreThanThereIsRoomFor();
        workMore();
        dayAheadOfTheTown();
        lacksAtTheEnd();
        lendingOfAMaskThatDoesNotFit();
        lendingOfAMaskThatIsLent();
        lendingToOneThatHasOne();
        Check.end();
    }

    /** FAULTS, the first that is met from the left. */
    private static void firstFromTheLeft() {
        Reading.marked("town days ^21;town", 4);
        Reading.marked("town days ^0 !", 4);
        Reading.marked("town days 1;^town days 0", 3);
        Reading.marked("town days 1 ^! days 0", 1);
        Reading.marked("work ^town,town", 1);
        Reading.marked("work a,^a,A", 3);
        Reading.marked("^promise !", 6);
        Reading.marked("^lent m to m from 0 until 0", 6);
        Reading.marked(TOWN + ";lent m to p from ^6 until 7", 4);
        Reading.marked(TOWN + ";lent ^x to y from 6", 2);
        Reading.marked(TOWN + ";letter m to ^m on 6", 3);
        Reading.marked(TOWN + ";letter ^o to o", 2);
        // What comes ahead of a fault holds none, though it isn't whole.
        Reading.marked("mask m plain size ^0", 4);
    }

    /** Of one place the least number. */
    private static void leastNumberOfOnePlace() {
        Reading.marked("work a,b,c,d,e,^a", 3);
        Reading.marked("work a,b,c,d,e,^town", 1);
        Reading.marked("work a,b,c,d,e,^abcdefghi", 1);
        Reading.marked("mask o plain size 1 credit 0;work a,b,c,d,e,^o", 3);
        Reading.marked("town days 1;^", 1);
        Reading.marked("town days ^", 1);
        Reading.marked("work a,^", 1);
        // The day is out of bounds, and the mask doesn't fit.
        Reading.marked(TOWN.replace("size 4", "size 1") + ";lent m to q from 1 until ^6", 4);
        Reading.marked(TOWN + ";lent m to p from 2 until 3;lent m to p from 3 until ^2", 4);
        Reading.marked(TOWN + ";break p on 1;break p on ^0", 4);
        Reading.marked(TOWN + ";promise ^mask", 1);
    }

    /** 1 FORM: the first byte that begins no TOKEN. */
    private static void firstByteThatBeginsNoToken() {
        Reading.marked("^?", 1);
        Reading.marked("town days 1^?", 1);
        Reading.marked("town days 1  ^?", 1);
        Reading.marked("town ^abcdefghi 1", 1);
        Reading.marked("town days ^1234", 1);
        Reading.marked(TOWN + "^" + (char) 0, 1);
        Reading.marked(TOWN + "^" + (char) 255, 1);
        // The blank of other signs, 160.
        Reading.marked(TOWN + "^" + (char) 160, 1);
        // 32, 97 and 48, if the highest bit were lost.
        Reading.marked("town^" + (char) (128 + ' ') + "days 1", 1);
        Reading.marked("town ^" + (char) (128 + 'd') + "ays 1", 1);
        Reading.marked("town days ^" + (char) (128 + '1'), 1);
        Reading.marked(TOWN + "^" + (char) (128 + ';') + "work b", 1);
    }

    /** Or TOKEN with which no BOOK goes on: each token of each line in turn is another one. */
    private static void tokenWithWhichNoBookGoesOn() {
        String[] lines = {"town days 5", "work a , b", "mask m plain size 5 credit 0", "person p size 5 honour 0",
            "person p size 5 honour 0 habit 1 does a , b", "promise m a on 1 worth 0 fine 0 effort 0",
            "lent m to p from 1 until 1", "seen m on 1 hour 0 size 1 habit 1", "letter m to n on 1", "break p on 1"};
        for (String line : lines) {
            String[] tokens = line.split(" ");
            boolean isDated = line.matches("(promise|lent|seen|letter|break) .*");
            StringBuilder ahead = new StringBuilder(isDated ? TOWN + ";" : "work a,b;".repeat(line.contains("does") ? 1 : 0));
            for (int i = 0; i < tokens.length; i++) {
                boolean isSign = tokens[i].equals(",");
                boolean isWhole = tokens[i].matches("[0-9]+");
                if (!isWhole && !isSign) {
                    Reading.marked(ahead + "^7", 1);
                }
                if (!isSign) {
                    Reading.marked(ahead + "^,", 1);
                }
                // A line may end ahead of a habit, of works, and of one work more.
                if (!isSign && !tokens[i].matches("habit|does")) {
                    Reading.marked(ahead + "^;", 1);
                }
                if (isWhole || isSign) {
                    Reading.marked(ahead + "^other", 1);
                }
                // Size is no name, and stands just behind the name of a mask's kind and of a person.
                if (!tokens[i].equals("size")) {
                    Reading.marked(ahead + "^size", 1);
                }
                ahead.append(tokens[i]).append(' ');
            }
            Reading.marked(ahead + "^7", 1);
            Reading.marked(ahead + "^town", 1);
        }
        Reading.marked("^days 5", 1);
        Reading.marked("^give m on 1", 1);
    }

    /** A word that isn't a name is another one, if a letter of it is another one, is missing or is one more. */
    private static void wordByItsLetters() {
        String[] lines = {"town days 5", "work a", "mask o plain size 5 credit 0", "mask o child size", "mask o foreign size",
            "mask o double size", "mask o king size", "person r size 5 honour 0", "person r size 5 honour 0 child",
            "person r size 5 honour 0 habit 1", "person r size 5 honour 0 does a",
            "promise m a on 1 worth 0 fine 0 effort 0", "lent m to p from 1 until 1", "seen m on 1 hour 0 size 1 habit 1",
            "letter m to n on 1", "break p on 1"};
        for (String line : lines) {
            StringBuilder ahead = new StringBuilder(line.startsWith("town") ? "" : TOWN + ";");
            for (String word : line.split(" ")) {
                if (word.length() > 1) {
                    for (int i = 0; i < word.length(); i++) {
                        String other = word.substring(0, i) + 'x' + word.substring(i + 1);
                        Reading.marked(ahead + "^" + other, 1);
                    }
                    Reading.marked(ahead + "^" + word.substring(1), 1);
                    Reading.marked(ahead + "^" + word.substring(0, word.length() - 1), 1);
                    Reading.marked(ahead + "^" + word + "x", 1);
                    Reading.marked(ahead + "^x" + word, 1);
                }
                ahead.append(word).append(' ');
            }
        }
    }

    /** The end: its place. */
    private static void theEnd() {
        String[] lines = {"town days 5", "work a , b", "mask o plain size 5 credit 0",
            "person r size 5 honour 0", "promise m a on 1 worth 0 fine 0 effort 0", "lent m to p from 1 until 1",
            "seen m on 1 hour 0 size 1", "letter m to n on 1", "break p on 1"};
        for (String line : lines) {
            String[] tokens = line.split(" ");
            boolean isNew = line.matches("(town|work) .*");
            StringBuilder ahead = new StringBuilder(isNew ? "" : TOWN + ";");
            for (int i = 0; i + 1 < tokens.length; i++) {
                ahead.append(tokens[i]).append(' ');
                // A list of works may end ahead of its comma, and then lacks a town.
                int fault = tokens[i + 1].equals(",") ? 6 : 1;
                Reading.marked(ahead.toString().trim() + "^", fault);
                Reading.marked(ahead + "^", fault);
                Reading.marked(ahead + "   ^", fault);
            }
        }
        LentMasks x = new LentMasks();
        Town.feed(x, Town.bytes(TOWN));
        Check.refused(x, "a text is at its end behind n bytes", x.book(8), -1, 4);
        Check.same("its fault", x.fault(), 1);
        Check.same("its place: behind 'town day', that is one word", x.where(), 5);
    }

    /** 2 a NAME that isn't told; at it. */
    private static void nameNotTold() {
        Reading.marked("person p size 1 honour 0 does ^a", 2);
        Reading.marked(TOWN + " does a,^b", 2);
        Reading.marked(TOWN + ";promise ^o a on 1 worth 0 fine 0 effort 0", 2);
        Reading.marked(TOWN + ";promise m ^b on 1 worth 0 fine 0 effort 0", 2);
        Reading.marked(TOWN + ";lent ^o to p from 1 until 1", 2);
        Reading.marked(TOWN + ";lent m to ^r from 1 until 1", 2);
        Reading.marked(TOWN + ";seen ^o on 1 hour 0 size 1", 2);
        Reading.marked(TOWN + ";letter ^o to m on 1", 2);
        Reading.marked(TOWN + ";letter m to ^o on 1", 2);
        Reading.marked(TOWN + ";break ^r on 1", 2);
        // The beginning of a name isn't that name, nor is one that goes on.
        Reading.marked("mask mask" + "x".repeat(4) + " plain size 1 credit 0;town days 1;seen ^maskx", 2);
        Reading.marked(TOWN + ";seen ^mm", 2);
        // A name of a former text is forgotten.
        LentMasks x = Town.of(TOWN);
        String other = "town days 5;mask o plain size 5 credit 0;person r size 5 honour 0;seen m";
        Check.refused(x, "another text", Town.book(x, other), -1, 4);
        Check.same("its fault", x.fault(), 2);
        Check.same("its place", x.where(), other.length() - 1);
    }

    /** Or is of another sort than must stand there; at it. */
    private static void nameOfAnotherSort() {
        for (String name : new String[] {"m", "p"}) {
            Reading.marked(TOWN + " does ^" + name, 2);
            Reading.marked(TOWN + ";promise m ^" + name, 2);
        }
        for (String name : new String[] {"a", "p"}) {
            Reading.marked(TOWN + ";promise ^" + name, 2);
            Reading.marked(TOWN + ";lent ^" + name, 2);
            Reading.marked(TOWN + ";seen ^" + name, 2);
            Reading.marked(TOWN + ";letter ^" + name, 2);
            Reading.marked(TOWN + ";letter m to ^" + name, 2);
        }
        for (String name : new String[] {"a", "m"}) {
            Reading.marked(TOWN + ";lent m to ^" + name, 2);
            Reading.marked(TOWN + ";break ^" + name, 2);
        }
    }

    /** 3 a NAME told again; at it. */
    private static void nameToldAgain() {
        for (String name : new String[] {"a", "m", "p"}) {
            Reading.marked(TOWN + ";work ^" + name, 3);
            Reading.marked(TOWN + ";work b,^" + name, 3);
            Reading.marked(TOWN + ";mask ^" + name, 3);
            Reading.marked(TOWN + ";person ^" + name, 3);
        }
        Reading.marked("work a,^a", 3);
        Reading.sound(TOWN + ";work aa;mask mm plain size 1 credit 0;person pp size 1 honour 0", 3);
        LentMasks x = Town.of(TOWN);
        Check.given(x, "another text tells the same names", Town.book(x, TOWN), 2);
        Town.book(x, "work b;mask o plain size 1 credit 0;work town");
        Check.given(x, "those of a faulty text don't count", Town.book(x, TOWN + ";work b;mask o plain size 1 credit 0"), 3);
    }

    /** A WORK of a person told again; at it. */
    private static void workOfAPersonToldAgain() {
        Reading.marked(TOWN + " does a,^a", 3);
        Reading.marked("work b;" + TOWN + " does a,b,^a", 3);
        Reading.sound(TOWN + " does a;person r size 1 honour 0 does a", 2);
    }

    /** The second MASK of a letter that is the first; at it. */
    private static void secondMaskIsTheFirst() {
        Reading.marked(TOWN + ";letter m to ^m on 1", 3);
        Reading.marked(TOWN + ";letter n to ^n on 1", 3);
        Reading.marked(TOWN + ";letter m to ^m", 3);
        Reading.sound(TOWN + ";letter m to n on 1;letter n to m on 1", 2);
    }

    /** A PERSON that breaks told again with that DAY, at that DAY. */
    private static void breakToldAgain() {
        Reading.marked(TOWN + ";break p on 1;break p on ^1", 3);
        Reading.marked(TOWN + ";break p on 5;break q on 5;break p on 4;break q on ^005", 3);
        Reading.sound(TOWN + ";break p on 1;break p on 2;break q on 1;break q on 2", 2);
    }

    /** A second town; at that WORD. */
    private static void secondTown() {
        Reading.marked("town days 1;^town days 1", 3);
        Reading.marked("town days 1;^town", 3);
        Reading.marked(TOWN + ";  ^town days 0", 3);
        Reading.marked("town days 1;^town!", 3);
    }

    /** 4 a WHOLE out of bounds; at it. EdgesTextTest has both sides of each. */
    private static void wholeOutOfBounds() {
        Reading.marked("town days   ^21", 4);
        Reading.marked("town days ^000", 4);
        Reading.marked("town days ^999;", 4);
        Reading.marked("mask m plain size^10", 4);
    }

    /** 5 MANY: a LINE more of its sort than there is room for, at its first WORD. EdgesTextTest has each sort. */
    private static void lineMoreThanThereIsRoomFor() {
        String eight = TOWN + ";break p on 1;break p on 2;break p on 3;break p on 4;break p on 5"
                + ";break q on 1;break q on 2;break q on 3";
        Reading.sound(eight, 2);
        Reading.marked(eight + ";  ^break q on 4", 5);
        Reading.marked(eight + ";^break p on 1", 5);
        Reading.marked(eight + ";^break x", 5);
        Reading.marked(eight + ";^break!", 5);
        LentMasks x = Town.of(eight);
        Check.given(x, "the rooms are empty for another text", Town.book(x, eight), 2);
    }

    /** A work more; at it. */
    private static void workMore() {
        Reading.marked("work a,b,c,d,e, ^f", 5);
        Reading.marked("work a,b,c,d,e,^f!", 5);
        Reading.marked(TOWN + ";work b,c;work d,e,^f,g", 5);
    }

    /** 6 LACKS: a LINE with a DAY ahead of the town; at that WORD. */
    private static void dayAheadOfTheTown() {
        String names = "work a;mask m plain size 1 credit 0;mask n plain size 1 credit 0;person p size 1 honour 0;";
        String[] lines = {"promise m a on 1 worth 0 fine 0 effort 0", "lent m to p from 1 until 1",
            "seen m on 1 hour 0 size 1", "letter m to n on 1", "break p on 1"};
        for (String line : lines) {
            Reading.marked("^" + line, 6);
            Reading.marked(names + "^" + line + ";town days 1", 6);
            Reading.marked(names + "  ^" + line.substring(0, line.indexOf(' ')), 6);
            Reading.sound(names + "town days 1;" + line, 2);
        }
        Reading.sound(names + "town days 1", 2);
    }

    /** At the end: no town, no mask, no person. */
    private static void lacksAtTheEnd() {
        String town = "town days 1";
        String mask = "mask m plain size 1 credit 0";
        String person = "person p size 1 honour 0";
        Reading.sound(String.join(";", person, mask, town), 1);
        for (String text : new String[] {town, mask, person, "work a", town + ";" + mask, town + ";" + person,
            mask + ";" + person, "work a;" + mask + ";" + person}) {
            Reading.marked(text + "^", 6);
            Reading.marked(text + "  ^", 6);
        }
        LentMasks x = Town.of(TOWN);
        Check.refused(x, "those of a former text don't do", Town.book(x, "work a"), -1, 4);
        Check.same("its fault", x.fault(), 6);
    }

    /** 7 a lending that can't be: the MASK doesn't FIT; at its last WHOLE. */
    private static void lendingOfAMaskThatDoesNotFit() {
        String persons = "town days 5;mask m plain size 5 credit 0;person p size %d honour 0;lent m to p from 1 until ";
        for (int size = 1; size <= 9; size++) {
            if (size >= 4 && size <= 6) {
                Reading.sound(String.format(persons, size) + "5", 1);
            } else {
                Reading.marked(String.format(persons, size) + "^5;work a", 7);
                Reading.marked(String.format(persons, size) + " ^005", 7);
            }
        }
    }

    /** Is lent on one of these days. */
    private static void lendingOfAMaskThatIsLent() {
        String lent = TOWN + ";lent n to p from 2 until 4;lent n to q from ";
        Reading.sound(lent + "1 until 1", 2);
        Reading.sound(lent + "5 until 5", 2);
        for (String days : new String[] {"1 until ^2", "4 until ^5", "3 until ^3", "2 until ^4", "1 until ^5"}) {
            Reading.marked(lent + days, 7);
        }
        Reading.marked(TOWN + ";lent n to p from 2 until 4;lent n to p from 4 until ^4", 7);
        Reading.sound(TOWN + ";lent n to p from 2 until 4;lent n to p from 5 until 5", 2);
    }

    /** Or the PERSON has one. */
    private static void lendingToOneThatHasOne() {
        String lent = TOWN + ";lent n to p from 2 until 4;lent m to p from ";
        Reading.sound(lent + "1 until 1", 2);
        Reading.sound(lent + "5 until 5", 2);
        for (String days : new String[] {"1 until ^2", "4 until ^5", "3 until ^3", "2 until ^4", "1 until ^5"}) {
            Reading.marked(lent + days, 7);
        }
        Reading.sound(TOWN + ";lent n to p from 2 until 4;lent m to q from 2 until 4", 2);
    }
}
