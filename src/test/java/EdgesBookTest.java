import java.util.List;
import java.util.function.Consumer;

/** Promises 1 to 5, sentence by sentence: a new object, a full and an empty tape, refused books. */
public final class EdgesBookTest {
    private static final String LEAST = "town days 1;mask m plain size 1 credit 0;person p size 1 honour 0";

    public static void main(String[] args) {
        noBook();
        noBookHasNoDaysAndNoPegs();
        twentyBytesComeBehind();
        highestFirst();
        feedBeyond900();
        feedHasNoTrouble();
        bookOfTheFirstBytes();
        bookOfAllBytesAndOfNone();
        bookOfMoreBytesThanThereAre();
        tapeIsEmptyThen();
        bookHasNothingToUndoAndNoImages();
        nothingStaysOfAFormerBook();
        nothingStaysOfAFaultyBook();
        plansOfAFormerBookDoNotMatter();
        faultyBookLeavesTheBook();
        faultOfTheLatestBook();
        placeOfTheFault();
        useOf512Calls();
        Check.end();
    }

    /** Promise 1: No BOOK. */
    private static void noBook() {
        LentMasks x = new LentMasks();
        Check.same("trouble of a new object", x.trouble(), 0);
        Check.same("fault of a new object", x.fault(), 0);
        Check.same("where of a new object", x.where(), -1);
        int[] any = {Integer.MIN_VALUE, -1, 0, 1, 2, Integer.MAX_VALUE};
        Edges.refused(x, "fits", any, n -> x.fits(n, n), -1, 1);
        Edges.refused(x, "wearer", any, n -> x.wearer(n, n), -1, 1);
        Edges.refused(x, "worn", any, n -> x.worn(n, n), -1, 1);
        Edges.refused(x, "owes", any, x::owes, -1, 1);
        Edges.refused(x, "done", any, x::done, -1, 1);
        Edges.refused(x, "credit", any, n -> x.credit(n, n), -1, 1);
        Edges.refused(x, "debt", any, n -> x.debt(n, n), -1, 1);
        Edges.refused(x, "gain", any, n -> x.gain(n, n), -10000, 1);
        Edges.refused(x, "guild", any, n -> x.guild(), -1, 1);
        Edges.refused(x, "breaks", any, n -> x.breaks(n, n), -1, 1);
        Edges.refused(x, "value", any, x::value, -10000, 1);
        Edges.refused(x, "plan", any, n -> x.plan(n, n), -1, 1);
        Edges.refused(x, "needed", any, n -> x.needed(n, n), -1, 1);
        Edges.refused(x, "worth", any, n -> x.worth(), -100000, 1);
        Edges.refused(x, "real", any, x::real, -10000, 1);
        Edges.refused(x, "terms", any, n -> x.terms(), -1, 1);
        Edges.refused(x, "ask", any, n -> x.ask(n, n, n, n), -1, 1);
        Edges.refused(x, "wearers", any, x::wearers, -1, 1);
        Edges.refused(x, "odds", any, n -> x.odds(n, n, n, n > 0), -1, 1);
        Edges.refused(x, "may", any, n -> x.may(n, n), -1, 1);
        Edges.refused(x, "untrue", any, x::untrue, -1, 1);
        Edges.refused(x, "agrees", any, n -> x.agrees(n, n), -1, 1);
        Edges.refused(x, "lovers", any, n -> x.lovers(n, n == 0 ? 1 : 0), -1, 1);
        Edges.refused(x, "lover", any, n -> x.lover(n, n == 0 ? 1 : 0, n, n > 0), -1, 1);
        Edges.refused(x, "lend", any, n -> x.lend(n, n, n, n) ? 1 : 0, 0, 1);
        Edges.refused(x, "give", any, n -> x.give(n, n) ? 1 : 0, 0, 1);
        Edges.refused(x, "pass", any, n -> x.pass(n, n, n) ? 1 : 0, 0, 1);
        Edges.refused(x, "breaking", any, n -> x.breaking(n, n, n > 0) ? 1 : 0, 0, 1);
        Edges.refused(x, "image", any, n -> x.image(), -1, 1);
        Edges.refused(x, "back", any, n -> x.back(n) ? 1 : 0, 0, 1);
        Edges.refused(x, "lending", any, n -> x.lending(n, 0), -1, 1);
        Edges.refused(x, "mask", any, n -> x.mask(n, 0), -1, 1);
        Edges.refused(x, "person", any, n -> x.person(n, 0), -1, 1);
        x.guild();
        Check.refused(x, "undo", x.undo(), 6);
        x.guild();
        Check.refused(x, "redo", x.redo(), 6);
    }

    private static void noBookHasNoDaysAndNoPegs() {
        LentMasks x = new LentMasks();
        for (int n = -1; n <= 21; n++) {
            Check.noLed(x, n, 0);
            Check.noLed(x, 0, n);
        }
        for (int what = 0; what <= 11; what++) {
            Check.same("size(" + what + ")", x.size(what), 0);
        }
    }

    /** Promise 2: Twenty bytes come behind THE TAPE: how many it has. */
    private static void twentyBytesComeBehind() {
        LentMasks x = new LentMasks();
        for (int i = 1; i <= 45; i++) {
            Check.same("feed " + i, x.feed(i, 0, -1, Integer.MIN_VALUE, Integer.MAX_VALUE), 20 * i);
            Check.same("bytes of the tape", x.size(11), 20 * i);
        }
    }

    /** Of each number the highest first. */
    private static void highestFirst() {
        // Blanks but for one byte, at each of the twenty places in turn.
        for (int at = 0; at < 20; at++) {
            int[] n = {0x20202020, 0x20202020, 0x20202020, 0x20202020, 0x20202020};
            n[at / 4] ^= (0x20 ^ 0xff) << 24 - at % 4 * 8;
            LentMasks x = new LentMasks();
            x.feed(0x20202020, 0x20202020, 0x20202020, 0x20202020, 0x20202020);
            x.feed(n[0], n[1], n[2], n[3], n[4]);
            Check.refused(x, "a byte that begins no token", x.book(40), -1, 4);
            Check.same("place of byte " + at, x.where(), 20 + at);
        }
    }

    /** NONE, and none comes, if there would be more than 900. */
    private static void feedBeyond900() {
        LentMasks x = new LentMasks();
        Town.feed(x, Town.bytes(LEAST + " ".repeat(880 - LEAST.length())));
        Check.same("880", x.size(11), 880);
        Check.same("900 aren't more", x.feed(0x20202020, 0x20202020, 0x20202020, 0x20202020, 0x20202020), 900);
        Check.same("920 would be", x.feed(0, 0, 0, 0, 0), -1);
        Check.same("and once more", x.feed(-1, -1, -1, -1, -1), -1);
        Check.same("none came", x.size(11), 900);
        Edges.given(x, "nor in place of others", () -> x.book(900), 1);
        Check.same("room again", x.feed(0, 0, 0, 0, 0), 20);
    }

    private static void feedHasNoTrouble() {
        LentMasks x = Town.of(LEAST);
        x.undo();
        Town.feed(x, new byte[900]);
        Check.same("trouble of the call ahead", x.trouble(), 6);
        x.guild();
        Check.same("feed", x.feed(0, 0, 0, 0, 0), -1);
        Check.same("no trouble, though none came", x.trouble(), 0);
    }

    /** Promise 3: The first n bytes of THE TAPE are the BOOK from now on: how many masks. */
    private static void bookOfTheFirstBytes() {
        LentMasks x = new LentMasks();
        Town.feed(x, Town.bytes(LEAST + ";mask n plain size 1 credit 0"));
        Check.given(x, "the first line but one", x.book(LEAST.length()), 1);
        Town.feed(x, Town.bytes(LEAST + ";mask n plain size 1 credit 0"));
        Check.given(x, "all lines", x.book(LEAST.length() + 29), 2);
        Town.feed(x, Town.bytes(LEAST + "9"));
        Check.given(x, "a whole is cut: honour 0, not 09", x.book(LEAST.length()), 1);
        Check.given(x, "honour", x.person(0, 1), 0);
        Town.feed(x, Town.bytes(LEAST + "9"));
        Check.given(x, "and isn't", x.book(LEAST.length() + 1), 1);
        Check.given(x, "honour", x.person(0, 1), 9);
        String six = LEAST;
        for (char c = 'a'; c < 'f'; c++) {
            six += ";mask " + c + " plain size 1 credit 0";
        }
        Check.given(x, "six masks", Town.book(x, six), 6);
    }

    private static void bookOfAllBytesAndOfNone() {
        LentMasks x = new LentMasks();
        Check.refused(x, "none of an empty tape: a text that ends where a line must begin", x.book(0), -1, 4);
        Check.same("its fault", x.fault(), 1);
        Check.same("its place", x.where(), 0);
        Town.feed(x, Town.bytes(LEAST));
        Check.refused(x, "none of the tape", x.book(0), -1, 4);
        Check.same("which is empty then", x.size(11), 0);
        Town.feed(x, Town.bytes(LEAST));
        Check.given(x, "all of it", x.book(x.size(11)), 1);
    }

    /** NONE: 2 (THE TAPE stays). */
    private static void bookOfMoreBytesThanThereAre() {
        LentMasks x = new LentMasks();
        int[] offEmpty = {Integer.MIN_VALUE, -1, 1, 20, 900, 901, Integer.MAX_VALUE};
        Edges.refused(x, "book of an empty tape", offEmpty, x::book, -1, 2);
        Town.feed(x, Town.bytes(LEAST));
        int all = x.size(11);
        int[] off = {Integer.MIN_VALUE, -900, -1, all + 1, all + 20, 900, 901, Integer.MAX_VALUE};
        Edges.refused(x, "book", off, x::book, -1, 2);
        Check.same("the tape stays", x.size(11), all);
        Check.given(x, "and is read", x.book(LEAST.length()), 1);
        Edges.refused(x, "book of an empty tape", offEmpty, x::book, -1, 2);
        Check.same("the book stays", x.size(0), 1);
        Town.feed(x, new byte[900]);
        Edges.refused(x, "book of a full tape", new int[] {901, 920}, x::book, -1, 2);
        Check.same("the tape stays", x.size(11), 900);
    }

    /** It is empty then. */
    private static void tapeIsEmptyThen() {
        LentMasks x = new LentMasks();
        Town.feed(x, Town.bytes(LEAST + " ".repeat(700)));
        x.book(LEAST.length());
        Check.same("behind a sound one", x.size(11), 0);
        Town.feed(x, Town.bytes("town days 0"));
        x.book(11);
        Check.same("behind a faulty one", x.size(11), 0);
        Town.feed(x, Town.bytes("town days 1"));
        Check.refused(x, "nothing is left of a longer text", x.book(20), -1, 4);
        Check.same("its place", x.where(), 20);
        Check.same("its fault", x.fault(), 6);
    }

    /** Nothing to undo, no IMAGES. */
    private static void bookHasNothingToUndoAndNoImages() {
        LentMasks x = Town.of(LEAST);
        x.lend(0, 0, 1, 1);
        x.breaking(0, 1, true);
        x.undo();
        x.image();
        x.image();
        x.image();
        Check.given(x, "book", Town.book(x, LEAST), 1);
        for (int what = 8; what <= 10; what++) {
            Check.same("size(" + what + ")", x.size(what), 0);
        }
        Check.refused(x, "undo", x.undo(), 6);
        Check.refused(x, "redo", x.redo(), 6);
        Edges.refused(x, "back", new int[] {0, 1, 2}, n -> x.back(n) ? 1 : 0, 0, 1);
        Edges.lent(x, "as the text tells", "");
        Edges.given(x, "nobody breaks", () -> x.breaks(0, 1), 0);
        Edges.given(x, "room for images again", x::image, 0);
    }

    /** The BOOK from now on. */
    private static void nothingStaysOfAFormerBook() {
        LentMasks x = new LentMasks();
        for (int i = 0; i < 3; i++) {
            Check.given(x, "a full book", Town.book(x, RICH), 2);
            Check.given(x, "an empty one", Town.book(x, POOR), 1);
            poorIsRead(x, i + " times");
        }
        Town.book(x, RICH);
        Town.book(x, RICH);
        Check.given(x, "an empty one behind two", Town.book(x, POOR), 1);
        poorIsRead(x, "behind two");
        Check.given(x, "and once more", Town.book(x, POOR), 1);
        poorIsRead(x, "behind itself");
        Check.given(x, "and the full one again", Town.book(x, RICH), 2);
        Check.same("promises", x.size(3), 1);
        Check.same("lendings", x.size(4), 1);
        Edges.given(x, "breaks", () -> x.breaks(0, 2), 1);
    }

    private static void nothingStaysOfAFaultyBook() {
        LentMasks x = new LentMasks();
        for (int i = 0; i < 3; i++) {
            Check.refused(x, "a full book with a fault", Town.book(x, RICH + ";town"), -1, 4);
            Check.given(x, "an empty one", Town.book(x, POOR), 1);
            poorIsRead(x, "behind a faulty one");
        }
    }

    private static final String RICH = "work a;town days 3;mask m foreign size 9 credit 9;mask n double size 5 credit 8"
            + ";person p size 5 honour 7 child habit 3 does a;person q size 5 honour 60 child habit 2 does a"
            + ";promise m a on 2 worth 5 fine 4 effort 3;lent m to p from 2 until 2;seen m on 2 hour 1 size 5"
            + ";letter m to n on 2;break p on 2;break q on 2";
    private static final String POOR = "work b;town days 2;mask m plain size 1 credit 3;person p size 2 honour 6"
            + ";person q size 9 honour 5";

    private static void poorIsRead(LentMasks x, String what) {
        int[] sizes = {1, 2, 1, 0, 0, 0, 0, 2, 0, 0, 0, 0};
        for (int i = 0; i < sizes.length; i++) {
            Check.same(what + ": size(" + i + ")", x.size(i), sizes[i]);
        }
        int[][] persons = {{2, 6, 0, 0, 0}, {9, 5, 0, 0, 0}};
        for (int p = 0; p < 2; p++) {
            for (int i = 0; i < 5; i++) {
                int n = p;
                int w = i;
                Edges.given(x, what + ": person(" + p + ", " + i + ")", () -> x.person(n, w), persons[p][i]);
            }
            int n = p;
            Edges.given(x, what + ": breaks", () -> x.breaks(n, 2), 0);
            Edges.given(x, what + ": worn", () -> x.worn(n, 2), -2);
        }
        Edges.given(x, what + ": credit", () -> x.credit(0, 2), 3);
        Edges.given(x, what + ": guild", x::guild, 0);
        Edges.given(x, what + ": real", () -> x.real(2), 0);
        Edges.given(x, what + ": terms", x::terms, 0);
        Edges.given(x, what + ": ask", () -> x.ask(0, 0, 1, 2), 0);
        Edges.given(x, what + ": untrue", () -> x.untrue(2), 0);
        Edges.given(x, what + ": may", () -> x.may(2, 0), 0);
    }

    private static void plansOfAFormerBookDoNotMatter() {
        String six = "town days 1;work a;person p size 1 honour 0 does a;person q size 1 honour 0 does a";
        for (char c = 'a'; c <= 'f'; c++) {
            six += ";mask m" + c + " plain size 1 credit 0;promise m" + c + " a on 1 worth 9 fine 9 effort 0";
        }
        LentMasks x = Town.of(six);
        Edges.given(x, "value of six masks", () -> x.value(1), 18 - 36);
        String one = "town days 1;work a;person p size 9 honour 0 does a;person q size 1 honour 0"
                + ";mask m plain size 1 credit 0;promise m a on 1 worth 9 fine 3 effort 0";
        Town.book(x, one);
        Edges.given(x, "p doesn't fit any more, q doesn't do it", () -> x.value(1), -3);
        Edges.given(x, "plan", () -> x.plan(1, 0), -2);
        Edges.given(x, "needed", () -> x.needed(1, 0), 0);
    }

    /** 4 (the BOOK stays). */
    private static void faultyBookLeavesTheBook() {
        LentMasks x = Town.of(Town.MARKET);
        x.lend(2, 0, 3, 4);
        x.breaking(0, 4, true);
        x.undo();
        x.image();
        String before = Edges.state(x);
        String[] faulty = {"", "town days 1", LEAST + ";mask m", LEAST + ";break p on 1;break p on 2", "town days 99",
            LEAST + ";mask n king size 9 credit 9;lent n to p from 1 until 1", LEAST + ";seen x", "promise",
            "work a,b,c,d,e,f"};
        for (String text : faulty) {
            Check.refused(x, text, Town.book(x, text), -1, 4);
            Check.yes(text + ": all is as before", before.equals(Edges.state(x)));
            Edges.given(x, "days are as before", () -> x.credit(0, 4), 52);
            Edges.given(x, "plans are as before", x::worth, 54);
        }
        Edges.done(x, "what was undone is redone", x::redo);
        Edges.done(x, "its images stand", () -> x.back(0));
    }

    private static void faultIs(LentMasks x, String text, int due) {
        Town.book(x, text);
        Check.same("fault of " + text, x.fault(), due);
    }

    /** Promise 4: The FAULT of the latest book() not refused by 2; 0 without one. */
    private static void faultOfTheLatestBook() {
        LentMasks x = new LentMasks();
        x.book(1);
        Check.same("refused by 2", x.fault(), 0);
        faultIs(x, "!", 1);
        x.book(1);
        x.book(-1);
        Check.same("refused by 2", x.fault(), 1);
        faultIs(x, "town days 1;seen m", 2);
        faultIs(x, "town days 1;town", 3);
        faultIs(x, "town days 0", 4);
        faultIs(x, "work a,b,c,d,e,f", 5);
        faultIs(x, "work a", 6);
        faultIs(x, LEAST + ";lent m to p from 1 until 1;lent m to p from 1 until 1", 7);
        x.guild();
        x.undo();
        x.feed(0, 0, 0, 0, 0);
        Check.same("other calls leave it", x.fault(), 7);
        x.book(20);
        faultIs(x, LEAST, 0);
        x.fits(-1, -1);
        x.book(1);
        Check.same("refused by 2 behind a sound one", x.fault(), 0);
    }

    /** Promise 5: Its place, if the latest call that may be refused was by 4; NONE else. */
    private static void placeOfTheFault() {
        String faulty = LEAST + ";break p on 2";
        int place = faulty.length() - 1;
        // Refused or not, a call that may be refused takes it away.
        List<Consumer<LentMasks>> calls = List.of(LentMasks::guild, y -> y.fits(0, 0), y -> y.fits(9, 9),
                y -> y.wearer(0, 9), LentMasks::undo, LentMasks::redo, LentMasks::image, y -> y.back(0), y -> y.book(1),
                y -> y.lovers(0, 0), y -> y.lend(0, 0, 1, 1), y -> y.lending(0, 0));
        for (Consumer<LentMasks> call : calls) {
            LentMasks y = Town.of(LEAST);
            Town.book(y, faulty);
            Check.same("where", y.where(), place);
            call.accept(y);
            Check.same("where behind another call", y.where(), -1);
            Check.same("fault behind another call", y.fault(), 4);
        }
        LentMasks x = Town.of(LEAST);
        Check.same("where of a sound text", x.where(), -1);
        Town.book(x, faulty);
        x.fault();
        x.size(3);
        x.size(99);
        x.trouble();
        x.led(1, 0);
        Check.noLed(x, 9, 9);
        Town.feed(x, new byte[920]);
        Check.same("calls that are never refused leave it", x.where(), place);
        Check.same("and the trouble", x.trouble(), 4);
        x.book(900);
        Check.same("the first byte", x.where(), 0);
        Town.book(x, LEAST);
        Check.same("a sound text has none", x.where(), -1);
    }

    /** An object is used for at most 512 calls after it has been made. */
    private static void useOf512Calls() {
        LentMasks x = new LentMasks();
        Town.feed(x, Town.bytes(LEAST));
        x.book(LEAST.length());
        int calls = (LEAST.length() + 19) / 20 + 1 + 1;
        while (calls < 508) {
            x.breaking(0, 1, calls % 2 == 0);
            calls++;
        }
        Check.given(x, "the 509th and 510th", x.breaks(0, 1), 0);
        Check.same("the 511th: acts kept", x.size(8), 12);
        Check.yes("the 512th: undo", x.undo());
    }
}
