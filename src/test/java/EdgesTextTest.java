/**
 * Part I of the document's terms, sentence by sentence: what is just in bounds, and what is just beyond.
 * In a faulty text a ^ stands ahead of the place of its fault.
 */
public final class EdgesTextTest {
    private static final String TOWN = "town days 20;work a,b;mask m plain size 5 credit 0;mask n foreign size 5 credit 0"
            + ";person p size 5 honour 0;person q size 4 honour 0";
    private static final String LEAST = "town days 1;mask m plain size 1 credit 0;person p size 1 honour 0";
    private static final String[] NO_NAMES = {"town", "work", "mask", "person", "promise", "lent", "seen", "letter",
        "break", "child", "habit", "does", "size"};
    private static final String[] NAMES = {"days", "plain", "foreign", "double", "king", "credit", "honour", "on",
        "worth", "fine", "effort", "to", "from", "until", "hour"};

    public static void main(String[] args) {
        tapeHas900Bytes();
        blanksPartTokens();
        noOtherByteIsABlank();
        wordsHaveOneToEightLetters();
        wholesHaveOneToThreeDigits();
        semicolonsAndCommasAreSingle();
        aBookIsOneLineAtLeast();
        townBounds();
        upToFiveWorks();
        maskBounds();
        upToSixMasks();
        personBounds();
        personsHabitsInOrder();
        upToSixPersons();
        eachWorkOnce();
        promiseBounds();
        upToTwelvePromises();
        lentBounds();
        upToTwelveLendings();
        seenBounds();
        upToEightSightings();
        letterBounds();
        upToEightLetters();
        breakBounds();
        upToEightBreaks();
        eachSortHasItsOwnRoom();
        wordsThatAreNoNames();
        allOtherWordsAreNames();
        namesAreToldAheadOfTheirUse();
        oneNameMoreThanAllRooms();
        Check.end();
    }

    /** THE TAPE has 900 bytes. */
    private static void tapeHas900Bytes() {
        String blanks = " ".repeat(900 - LEAST.length());
        Reading.sound(LEAST + blanks, 1);
        Reading.sound(blanks + LEAST, 1);
        Reading.marked(LEAST + blanks.substring(1) + "^!", 1);
        Reading.marked(LEAST + blanks.substring(1) + ";^", 1);
    }

    /** Blanks, 32, part TOKENS and mean nothing else. */
    private static void blanksPartTokens() {
        Reading.sound("town days1;mask m plain size1credit0;person p size1honour0", 1);
        Reading.sound("  town  days  1  ;  mask  m  plain  size  1  credit  0  ;  person  p  size  1  honour  0  ", 1);
        Reading.marked("^to wn days 1", 1);
        Reading.marked("^towndays 1", 1);
        Reading.marked("town days 1 ^0;", 1);
        Reading.marked("work a^1", 1);
        Reading.sound("work a ,b;" + LEAST, 1);
        Reading.sound("work a, b;" + LEAST, 1);
    }

    private static void noOtherByteIsABlank() {
        for (int b = 0; b < 256; b++) {
            boolean isToken = b == ' ' || b == ';' || b == ',' || b >= '0' && b <= '9' || b >= 'a' && b <= 'z';
            if (!isToken) {
                Reading.faulty((char) b + LEAST, 1, 0);
                Reading.faulty("town" + (char) b + "days 1", 1, 4);
                Reading.faulty(LEAST + (char) b, 1, LEAST.length());
            }
        }
    }

    /** WORDS of 1 to 8 small letters that stand together. */
    private static void wordsHaveOneToEightLetters() {
        Reading.sound("work a,z,azazazaz,zzzzzzzz,aaaaaaaa;" + LEAST, 1);
        Reading.marked("work ^azazazaza", 1);
        Reading.marked("work ^azazazaz" + "a".repeat(800), 1);
        Reading.marked("work ^A", 1);
        Reading.marked("work a^Z", 1);
        Reading.marked("work ^`", 1);
        Reading.marked("work a^{", 1);
        // Nine letters are no word, even if the first eight are.
        Reading.marked("work abcdefgh;work ^abcdefghi", 1);
        Reading.marked("^townn days 1", 1);
        Reading.marked("^tow days 1", 1);
    }

    /** WHOLES of 1 to 3 digits that do. */
    private static void wholesHaveOneToThreeDigits() {
        Reading.sound(LEAST.replace("days 1", "days 09"), 1);
        Reading.sound(LEAST.replace("days 1", "days 020"), 1);
        Reading.marked("town days ^0001", 1);
        Reading.marked("town days ^1000", 1);
        // Beyond an int it would come round to 1.
        Reading.marked("town days ^4294967297", 1);
        Reading.marked("town days ^" + "1".repeat(800), 1);
        Reading.marked("town days 1^/", 1);
        Reading.marked("town days 1^:", 1);
        Reading.marked("town days ^-1", 1);
        Reading.marked("town days 1^.", 1);
    }

    /** Single ones of ; , */
    private static void semicolonsAndCommasAreSingle() {
        Reading.marked("town days 1;^;mask", 1);
        Reading.marked("work a,^,b", 1);
        Reading.marked("work a,^;b", 1);
        Reading.marked("work ^,a", 1);
        Reading.marked("town days 1^,mask", 1);
        Reading.marked("town ^; days 1", 1);
    }

    /** LINE {; LINE}. */
    private static void aBookIsOneLineAtLeast() {
        Reading.marked("^", 1);
        Reading.marked("  ^", 1);
        Reading.marked("^;" + LEAST, 1);
        Reading.marked(LEAST + ";^", 1);
        Reading.marked(LEAST + " ; ^", 1);
        Reading.marked("work a^", 6);
        Reading.marked(LEAST + " ^work", 1);
    }

    /** town days WHOLE (1 .. 20). */
    private static void townBounds() {
        Reading.bounds("mask m plain size 1 credit 0;person p size 1 honour 0;town days ", 1, 20, "");
    }

    /** work NAME {, NAME} (up to 5 in all). */
    private static void upToFiveWorks() {
        Reading.sound("work a,b,c,d,e;" + LEAST, 1);
        Reading.sound("work a;work b;work c;work d;work e;" + LEAST, 1);
        Reading.marked("work a,b,c,d,e,^f;" + LEAST, 5);
        Reading.marked("work a,b,c,d;work e,^f", 5);
        Reading.marked("work a,b,c,d,e;work ^f", 5);
        Reading.marked("work a,b,c,d,e;work^", 1);
        Reading.marked("work a,b,c,d,e,^", 1);
    }

    /** mask NAME KIND size WHOLE credit WHOLE (KIND: plain, child, foreign, double, king; 1 .. 9, 0 .. 99). */
    private static void maskBounds() {
        String rest = ";town days 1;person p size 1 honour 0";
        for (String kind : new String[] {"plain", "child", "foreign", "double", "king"}) {
            Reading.bounds("mask m " + kind + " size ", 1, 9, " credit 0" + rest);
            Reading.bounds("mask m " + kind + " size 1 credit ", 0, 99, rest);
        }
        Reading.marked("mask m ^queen size 1", 1);
        Reading.marked("mask m ^size 1", 1);
        Reading.marked("mask m ^1", 1);
    }

    private static String lines(int count, String line) {
        StringBuilder s = new StringBuilder();
        for (int i = 0; i < count; i++) {
            s.append(i == 0 ? "" : ";").append(line.replace('#', (char) ('r' + i)).replace("%", String.valueOf(i + 1)));
        }
        return s.toString();
    }

    /** Masks: up to 6. */
    private static void upToSixMasks() {
        String six = lines(6, "mask # plain size 1 credit 0");
        Reading.sound(six + ";town days 1;person p size 1 honour 0", 6);
        Reading.marked(six + ";^mask m plain size 1 credit 0", 5);
        Reading.marked(six + ";^mask", 5);
        Reading.marked(six + ";^mask town", 5);
    }

    /** person: 1 .. 9, 0 .. 99, 1 .. 4. */
    private static void personBounds() {
        String rest = ";town days 1;mask m plain size 1 credit 0";
        Reading.bounds("person p size ", 1, 9, " honour 0" + rest);
        Reading.bounds("person p size 1 honour ", 0, 99, rest);
        Reading.bounds("person p size 1 honour 0 habit ", 1, 4, rest);
        Reading.bounds("person p size 1 honour 0 child habit ", 1, 4, rest);
    }

    /** Behind it perhaps child, then perhaps habit WHOLE, then perhaps does WORK {, WORK}. */
    private static void personsHabitsInOrder() {
        String person = "work a,b;town days 1;mask m plain size 1 credit 0;person p size 1 honour 0";
        for (String child : new String[] {"", " child"}) {
            for (String habit : new String[] {"", " habit 3"}) {
                for (String does : new String[] {"", " does b", " does b,a"}) {
                    Reading.sound(person + child + habit + does, 1);
                }
            }
        }
        Reading.marked(person + " child ^child", 1);
        Reading.marked(person + " habit 1 ^child", 1);
        Reading.marked(person + " habit 1 ^habit 1", 1);
        Reading.marked(person + " does a ^habit 1", 1);
        Reading.marked(person + " does a ^child", 1);
        Reading.marked(person + " does a ^does b", 1);
        Reading.marked(person + " habit ^", 1);
        Reading.marked(person + " does ^", 1);
        Reading.marked(person + " does a,^", 1);
        Reading.marked(person + " does ^1", 1);
    }

    /** Persons: up to 6. */
    private static void upToSixPersons() {
        String six = lines(6, "person # size 1 honour 0");
        Reading.sound(six + ";town days 1;mask m plain size 1 credit 0", 1);
        Reading.marked(six + ";^person p size 1 honour 0", 5);
        Reading.marked(six + ";^person", 5);
    }

    /** Each WORK once. */
    private static void eachWorkOnce() {
        String person = "work a,b,c,d,e;" + LEAST + " does ";
        Reading.sound(person + "e,d,c,b,a", 1);
        Reading.marked(person + "a,^a", 3);
        Reading.marked(person + "e,d,c,b,a,^e", 3);
        Reading.sound(person + "a;person q size 1 honour 0 does a", 1);
    }

    /** promise MASK WORK on DAY worth WHOLE fine WHOLE effort WHOLE (DAY: 1 up to days; 0 .. 99 each). */
    private static void promiseBounds() {
        Reading.bounds(TOWN + ";promise m a on ", 1, 20, " worth 0 fine 0 effort 0");
        Reading.bounds(TOWN.replace("20", "7") + ";promise m a on ", 1, 7, " worth 0 fine 0 effort 0");
        Reading.bounds(TOWN.replace("20", "1") + ";promise m a on ", 1, 1, " worth 0 fine 0 effort 0");
        Reading.bounds(TOWN + ";promise m a on 1 worth ", 0, 99, " fine 0 effort 0");
        Reading.bounds(TOWN + ";promise m a on 1 worth 0 fine ", 0, 99, " effort 0");
        Reading.bounds(TOWN + ";promise m a on 1 worth 0 fine 0 effort ", 0, 99, "");
    }

    /** PROMISES: up to 12. */
    private static void upToTwelvePromises() {
        String twelve = TOWN + ";" + lines(12, "promise m a on 1 worth 0 fine 0 effort 0");
        Reading.sound(twelve, 2);
        Reading.marked(twelve + ";^promise m a on 1 worth 0 fine 0 effort 0", 5);
        Reading.marked(twelve + ";^promise", 5);
    }

    /** lent MASK to PERSON from DAY until DAY (the latter not below the former). */
    private static void lentBounds() {
        Reading.bounds(TOWN + ";lent m to p from ", 1, 20, " until 20");
        Reading.bounds(TOWN + ";lent m to p from 1 until ", 1, 20, "");
        Reading.bounds(TOWN + ";lent m to p from 7 until ", 7, 20, "");
        Reading.bounds(TOWN + ";lent m to p from 20 until ", 20, 20, "");
        Reading.bounds(TOWN.replace("20", "7") + ";lent m to p from ", 1, 7, " until 7");
        Reading.bounds(TOWN.replace("20", "7") + ";lent m to p from 2 until ", 2, 7, "");
    }

    /** Lendings: up to 12. */
    private static void upToTwelveLendings() {
        String twelve = TOWN + ";" + lines(12, "lent m to p from % until %");
        Reading.sound(twelve, 2);
        Reading.marked(twelve + ";^lent m to p from 13 until 13", 5);
        Reading.marked(twelve + ";^lent", 5);
    }

    /** seen MASK on DAY hour WHOLE size WHOLE, behind it perhaps habit WHOLE (0 .. 23, 1 .. 9, 1 .. 4). */
    private static void seenBounds() {
        Reading.bounds(TOWN + ";seen m on ", 1, 20, " hour 0 size 1");
        Reading.bounds(TOWN.replace("20", "7") + ";seen m on ", 1, 7, " hour 0 size 1");
        Reading.bounds(TOWN + ";seen m on 1 hour ", 0, 23, " size 1");
        Reading.bounds(TOWN + ";seen m on 1 hour 0 size ", 1, 9, "");
        Reading.bounds(TOWN + ";seen m on 1 hour 0 size 1 habit ", 1, 4, "");
        Reading.marked(TOWN + ";seen m on 1 hour 0 size 1 habit 1 ^habit 1", 1);
        Reading.marked(TOWN + ";seen m on 1 hour 0 size 1 habit ^", 1);
    }

    /** Sightings: up to 8. */
    private static void upToEightSightings() {
        String eight = TOWN + ";" + lines(8, "seen m on 1 hour 0 size 1");
        Reading.sound(eight, 2);
        Reading.marked(eight + ";^seen m on 1 hour 0 size 1", 5);
        Reading.marked(eight + ";^seen", 5);
    }

    /** letter MASK to MASK on DAY (unlike ones). */
    private static void letterBounds() {
        Reading.bounds(TOWN + ";letter m to n on ", 1, 20, "");
        Reading.bounds(TOWN.replace("20", "7") + ";letter n to m on ", 1, 7, "");
        Reading.marked(TOWN + ";letter m to ^m on 1", 3);
        Reading.marked(TOWN + ";letter n to ^n on 1", 3);
        // A letter told again is another letter.
        Reading.sound(TOWN + ";letter m to n on 1;letter m to n on 1;letter n to m on 1", 2);
    }

    /** Letters: up to 8. */
    private static void upToEightLetters() {
        String eight = TOWN + ";" + lines(8, "letter m to n on %");
        Reading.sound(eight, 2);
        Reading.marked(eight + ";^letter m to n on 9", 5);
        Reading.marked(eight + ";^letter", 5);
    }

    /** break PERSON on DAY. */
    private static void breakBounds() {
        Reading.bounds(TOWN + ";break p on ", 1, 20, "");
        Reading.bounds(TOWN.replace("20", "7") + ";break q on ", 1, 7, "");
    }

    /** Breaks: up to 8. */
    private static void upToEightBreaks() {
        String eight = TOWN + ";" + lines(8, "break p on %");
        Reading.sound(eight, 2);
        Reading.marked(eight + ";^break q on 1", 5);
        Reading.marked(eight + ";^break", 5);
    }

    private static void eachSortHasItsOwnRoom() {
        String all = TOWN + ";" + lines(8, "seen m on 1 hour 0 size 1") + ";" + lines(8, "letter m to n on %") + ";"
                + lines(8, "break p on %") + ";" + lines(5, "lent m to p from % until %");
        LentMasks x = Town.of(all);
        Check.same("sightings", x.size(5), 8);
        Check.same("letters", x.size(6), 8);
        Check.same("lendings", x.size(4), 5);
        LentMasks y = Town.of("town days 12;work a,b,c,d,e;" + lines(6, "mask # plain size 1 credit 0") + ";"
                + lines(6, "person p# size 1 honour 0") + ";" + lines(12, "lent w to pw from % until %"));
        Check.same("masks", y.size(0), 6);
        Check.same("persons", y.size(1), 6);
        Check.same("works", y.size(2), 5);
        Check.same("lendings", y.size(4), 12);
    }

    /** NAMES are WORDS but town, work, mask, person, promise, lent, seen, letter, break, child, habit, does, size. */
    private static void wordsThatAreNoNames() {
        for (String word : NO_NAMES) {
            Reading.marked("work ^" + word, 1);
            Reading.marked("work a,^" + word, 1);
            Reading.marked("mask ^" + word + " plain size 1 credit 0", 1);
            Reading.marked("person ^" + word + " size 1 honour 0", 1);
            Reading.marked(TOWN + " does ^" + word, 1);
            Reading.marked(TOWN + ";promise ^" + word, 1);
            Reading.marked(TOWN + ";promise m ^" + word, 1);
            Reading.marked(TOWN + ";lent ^" + word, 1);
            Reading.marked(TOWN + ";lent m to ^" + word, 1);
            Reading.marked(TOWN + ";seen ^" + word, 1);
            Reading.marked(TOWN + ";letter ^" + word, 1);
            Reading.marked(TOWN + ";letter m to ^" + word, 1);
            Reading.marked(TOWN + ";break ^" + word, 1);
        }
    }

    private static void allOtherWordsAreNames() {
        for (String word : NAMES) {
            Reading.sound("work " + word + ";" + LEAST + " does " + word
                    + ";promise m " + word + " on 1 worth 0 fine 0 effort 0", 1);
            Reading.sound("mask " + word + " king size 1 credit 0;town days 1;person p size 1 honour 60"
                    + ";lent " + word + " to p from 1 until 1;seen " + word + " on 1 hour 0 size 1", 1);
            Reading.sound("person " + word + " size 1 honour 0 child;town days 1;mask m child size 1 credit 0"
                    + ";lent m to " + word + " from 1 until 1;break " + word + " on 1", 1);
            Reading.sound(LEAST + ";mask " + word + " plain size 1 credit 0;letter " + word + " to m on 1"
                    + ";letter m to " + word + " on 1", 2);
        }
        // As long as a word that is none, or longer by its last letter.
        Reading.sound("work tower,sizes,chill,towns,siz;" + LEAST, 1);
    }

    private static void oneNameMoreThanAllRooms() {
        String all = "work a,b,c,d,e;" + lines(6, "mask # plain size 1 credit 0") + ";" + lines(6, "person p# size 1 honour 0");
        Reading.sound(all + ";town days 1", 6);
        Reading.marked(all + ";work ^f", 5);
        Reading.marked(all + ";work ^pw", 3);
        Reading.marked(all + ";^mask f", 5);
        Reading.marked(all + ";^person f", 5);
    }

    /** Each told once, ahead of its use. */
    private static void namesAreToldAheadOfTheirUse() {
        Reading.marked("person p size 1 honour 0 does ^a;work a", 2);
        Reading.marked(TOWN + ";promise ^o a on 1 worth 0 fine 0 effort 0;mask o plain size 1 credit 0", 2);
        Reading.marked(TOWN + ";promise m ^c on 1 worth 0 fine 0 effort 0;work c", 2);
        Reading.marked(TOWN + ";lent m to ^r from 1 until 1;person r size 1 honour 0", 2);
        Reading.marked(TOWN + ";letter m to ^o on 1;mask o plain size 1 credit 0", 2);
        Reading.marked(TOWN + ";break ^r on 1;person r size 1 honour 0", 2);
        Reading.sound("work a;" + LEAST + " does a;work b;mask n plain size 1 credit 0;person q size 1 honour 0 does b,a"
                + ";promise n b on 1 worth 0 fine 0 effort 0;lent n to q from 1 until 1", 2);
    }
}
