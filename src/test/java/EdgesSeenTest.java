import java.util.List;
import java.util.function.Consumer;

/** Promises 38 to 43 and part IV of the document's terms, sentence by sentence. */
public final class EdgesSeenTest {
    private static final String FULL = "town days 20;work a,b,c,d,e;mask ma plain size 1 credit 0;mask mb child size 9 credit 0"
            + ";mask mc foreign size 5 credit 0;mask md double size 9 credit 99;mask me king size 1 credit 0"
            + ";mask mf plain size 9 credit 0;person pa size 1 honour 1;person pb size 9 honour 99 child habit 4 does a,b,c,d,e"
            + ";person pc size 1 honour 60 habit 1;person pd size 1 honour 0 child does a;person pe size 1 honour 0 does e"
            + ";person pf size 9 honour 0 habit 4 does d,b;lent mf to pf from 1 until 20;lent ma to pa from 20 until 20";

    public static void main(String[] args) {
        lendingOfEach();
        lendingRefused();
        maskOfEachKind();
        maskRefused();
        personOfEach();
        personRefused();
        ledByLines();
        noLedOnSuchADay();
        noLedOfSuchANumber();
        noLedIfAllAreLent();
        sizesOfAll();
        noSizeOfOthers();
        sizesOfWhatThereIsNot();
        troubleOfTheLatestCallThatMayBeRefused();
        troubleOfEachNumber();
        troubleIsNoMoreBehindACallThatWasNot();
        Check.end();
    }

    /** Promise 38: Of a lending 0 its mask, 1 its person, 2 the first DAY, 3 the last. */
    private static void lendingOfEach() {
        LentMasks x = Town.of(FULL);
        int[][] due = {{0, 0, 20, 20}, {5, 5, 1, 20}};
        for (int i = 0; i < 2; i++) {
            for (int what = 0; what <= 3; what++) {
                int n = i;
                int w = what;
                Edges.given(x, "lending(" + i + ", " + what + ")", () -> x.lending(n, w), due[i][what]);
            }
        }
    }

    /** NONE: 1. */
    private static void lendingRefused() {
        LentMasks x = Town.of(FULL);
        for (int what = 0; what <= 3; what++) {
            int w = what;
            Edges.refused(x, "lending, i", Edges.off(2), n -> x.lending(n, w), -1, 1);
        }
        Edges.refused(x, "lending, what", Edges.off(4), n -> x.lending(0, n), -1, 1);
        LentMasks none = Town.of("town days 1;mask m plain size 1 credit 0;person p size 1 honour 0");
        Edges.refused(none, "lending of none", Edges.off(0), n -> none.lending(n, 0), -1, 1);
        none.lend(0, 0, 1, 1);
        Edges.refused(none, "lending of one", Edges.off(1), n -> none.lending(n, 0), -1, 1);
        Edges.given(none, "the only one", () -> none.lending(0, 3), 1);
        none.give(0, 1);
        Edges.refused(none, "lending that was given back", Edges.off(0), n -> none.lending(n, 0), -1, 1);
        LentMasks full = Town.of("town days 20;mask m plain size 1 credit 0;person p size 1 honour 0");
        for (int day = 1; day <= 20; day++) {
            full.lend(0, 0, day, day);
        }
        Edges.given(full, "the twentieth", () -> full.lending(19, 2), 20);
        Edges.refused(full, "lending of twenty", Edges.off(20), n -> full.lending(n, 0), -1, 1);
    }

    /** Promise 39: Of a mask 0 its KIND (0 plain, 1 child, 2 foreign, 3 double, 4 king), 1 its size. */
    private static void maskOfEachKind() {
        LentMasks x = Town.of(FULL);
        int[][] due = {{0, 1}, {1, 9}, {2, 5}, {3, 9}, {4, 1}, {0, 9}};
        for (int m = 0; m < 6; m++) {
            int n = m;
            Edges.given(x, "kind of " + m, () -> x.mask(n, 0), due[m][0]);
            Edges.given(x, "size of " + m, () -> x.mask(n, 1), due[m][1]);
        }
    }

    /** NONE: 1. */
    private static void maskRefused() {
        LentMasks x = Town.of(FULL);
        Edges.refused(x, "mask, m", Edges.off(6), n -> x.mask(n, 0), -1, 1);
        Edges.refused(x, "mask, m", Edges.off(6), n -> x.mask(n, 1), -1, 1);
        Edges.refused(x, "mask, what", Edges.off(2), n -> x.mask(0, n), -1, 1);
        LentMasks one = Town.of("town days 1;mask m plain size 1 credit 0;person p size 1 honour 0");
        Edges.refused(one, "mask of one", Edges.off(1), n -> one.mask(n, 0), -1, 1);
    }

    /** Promise 40: Of a person 0 its size, 1 honour, 2 whether it is a child, 3 its habit (0 without), 4 works, as bits. */
    private static void personOfEach() {
        LentMasks x = Town.of(FULL);
        int[][] due = {{1, 1, 0, 0, 0}, {9, 99, 1, 4, 31}, {1, 60, 0, 1, 0}, {1, 0, 1, 0, 1}, {1, 0, 0, 0, 16}, {9, 0, 0, 4, 10}};
        for (int p = 0; p < 6; p++) {
            for (int what = 0; what <= 4; what++) {
                int n = p;
                int w = what;
                Edges.given(x, "person(" + p + ", " + what + ")", () -> x.person(n, w), due[p][what]);
            }
        }
    }

    /** NONE: 1. */
    private static void personRefused() {
        LentMasks x = Town.of(FULL);
        for (int what = 0; what <= 4; what++) {
            int w = what;
            Edges.refused(x, "person, p", Edges.off(6), n -> x.person(n, w), -1, 1);
        }
        Edges.refused(x, "person, what", Edges.off(5), n -> x.person(0, n), -1, 1);
        LentMasks one = Town.of("town days 1;mask m plain size 1 credit 0;person p size 1 honour 0");
        Edges.refused(one, "person of one", Edges.off(1), n -> one.person(n, 0), -1, 1);
    }

    private static void ledAre(LentMasks x, int day, int... due) {
        for (int i = 0; i < due.length; i++) {
            Check.same("led(" + day + ", " + i + ")", x.led(day, i), due[i]);
        }
        for (int i : Edges.off(due.length)) {
            Check.noLed(x, day, i);
        }
    }

    /** Promise 41: The i-th mask, by LINES, that is on its peg on a DAY. */
    private static void ledByLines() {
        LentMasks x = Town.of(FULL);
        ledAre(x, 1, 0, 1, 2, 3, 4);
        ledAre(x, 19, 0, 1, 2, 3, 4);
        ledAre(x, 20, 1, 2, 3, 4);
        x.lend(2, 1, 19, 19);
        ledAre(x, 18, 0, 1, 2, 3, 4);
        ledAre(x, 19, 0, 1, 3, 4);
        x.give(5, 2);
        ledAre(x, 1, 0, 1, 2, 3, 4);
        ledAre(x, 2, 0, 1, 2, 3, 4, 5);
    }

    /** NoSuchElementException if there is none such (DAY, i). */
    private static void noLedOnSuchADay() {
        LentMasks x = Town.of(FULL);
        for (int day : Edges.offDays(20)) {
            Check.noLed(x, day, 0);
            Check.noLed(x, day, -1);
        }
        LentMasks one = Town.of("town days 1;mask m plain size 1 credit 0;person p size 1 honour 0");
        ledAre(one, 1, 0);
        for (int day : Edges.offDays(1)) {
            Check.noLed(one, day, 0);
        }
    }

    private static void noLedOfSuchANumber() {
        LentMasks x = Town.of(FULL);
        for (int i : Edges.off(5)) {
            Check.noLed(x, 1, i);
        }
    }

    private static void noLedIfAllAreLent() {
        LentMasks x = Town.of("town days 2;mask m plain size 1 credit 0;person p size 1 honour 0;lent m to p from 2 until 2");
        ledAre(x, 1, 0);
        ledAre(x, 2);
        x.undo();
        Check.noLed(x, 2, 0);
        Check.same("led leaves the trouble", x.trouble(), 6);
    }

    /** Promise 42: 0 masks .. 11 bytes of THE TAPE. */
    private static void sizesOfAll() {
        LentMasks x = Town.of(FULL + ";seen ma on 1 hour 0 size 1;letter ma to mb on 1;letter ma to mb on 1"
                + ";promise ma a on 1 worth 0 fine 0 effort 0");
        int[] due = {6, 6, 5, 1, 2, 1, 2, 20, 0, 0, 0, 0};
        sizesAre(x, "as told", due);
        x.lend(0, 0, 1, 1);
        due[4] = 3;
        due[8] = 1;
        sizesAre(x, "an act more", due);
        x.breaking(0, 1, true);
        due[8] = 2;
        sizesAre(x, "and one that is no lending", due);
        x.undo();
        due[8] = 1;
        due[9] = 1;
        sizesAre(x, "one undone", due);
        x.image();
        due[10] = 1;
        sizesAre(x, "an image more", due);
        x.feed(0, 0, 0, 0, 0);
        due[11] = 20;
        sizesAre(x, "bytes", due);
        x.back(0);
        due[8] = 0;
        due[9] = 0;
        sizesAre(x, "gone back", due);
        x.give(5, 1);
        due[4] = 2;
        due[8] = 1;
        sizesAre(x, "given back", due);
    }

    private static void sizesAre(LentMasks x, String what, int... due) {
        for (int i = 0; i < due.length; i++) {
            Check.same(what + ": size(" + i + ")", x.size(i), due[i]);
        }
    }

    /** NONE for others. */
    private static void noSizeOfOthers() {
        for (LentMasks x : new LentMasks[] {new LentMasks(), Town.of(FULL)}) {
            x.undo();
            for (int what : Edges.off(12)) {
                Check.same("size(" + what + ")", x.size(what), -1);
            }
            Check.same("size leaves the trouble", x.trouble(), 6);
        }
    }

    /** 0 for what there isn't. */
    private static void sizesOfWhatThereIsNot() {
        sizesAre(new LentMasks(), "no book", 0, 0, 0, 0, 0, 0, 0, 0, 0, 0, 0, 0);
        sizesAre(Town.of("town days 1;mask m plain size 1 credit 0;person p size 1 honour 0"), "the least book",
                1, 1, 0, 0, 0, 0, 0, 1, 0, 0, 0, 0);
        LentMasks x = new LentMasks();
        Town.book(x, FULL + ";town");
        sizesAre(x, "a faulty book", 0, 0, 0, 0, 0, 0, 0, 0, 0, 0, 0, 0);
    }

    /** Promise 43, IV: TROUBLE of the latest call that may be refused (those of which a number is told here). */
    private static void troubleOfTheLatestCallThatMayBeRefused() {
        List<Consumer<LentMasks>> others = List.of(x -> x.feed(0, 0, 0, 0, 0), LentMasks::fault, LentMasks::where,
                LentMasks::trouble, x -> x.size(0), x -> x.size(12), x -> x.led(1, 0), x -> Check.noLed(x, 0, 0));
        for (Consumer<LentMasks> call : others) {
            LentMasks x = Town.of(FULL);
            call.accept(x);
            Check.same("trouble behind book", x.trouble(), 0);
            x.wearer(9, 9);
            call.accept(x);
            Check.same("trouble 1", x.trouble(), 1);
            x.wearer(0, 0);
            call.accept(x);
            Check.same("trouble 2", x.trouble(), 2);
        }
    }

    /** 0 it wasn't; 1 there is none such; 2 a number; 3 no room; 4 a FAULT; 5 not so; 6 there is none. */
    private static void troubleOfEachNumber() {
        LentMasks x = Town.of(FULL);
        Check.same("0", x.trouble(), 0);
        x.fits(6, 0);
        Check.same("1", x.trouble(), 1);
        x.value(21);
        Check.same("2", x.trouble(), 2);
        x.book(1);
        Check.same("2", x.trouble(), 2);
        x.image();
        x.image();
        x.image();
        Check.same("0", x.trouble(), 0);
        x.image();
        Check.same("3", x.trouble(), 3);
        Town.book(x, "town days 21");
        Check.same("4", x.trouble(), 4);
        x.ask(4, 0, 1, 1);
        Check.same("5", x.trouble(), 5);
        x.undo();
        Check.same("6", x.trouble(), 6);
    }

    private static void troubleIsNoMoreBehindACallThatWasNot() {
        List<Consumer<LentMasks>> calls = List.of(x -> x.fits(0, 0), x -> x.wearer(0, 1), x -> x.worn(0, 1), x -> x.owes(0),
                x -> x.done(0), x -> x.credit(0, 0), x -> x.debt(0, 0), x -> x.gain(0, 0), LentMasks::guild,
                x -> x.breaks(0, 1), x -> x.value(1), x -> x.plan(1, 0), x -> x.needed(1, 0), LentMasks::worth,
                x -> x.real(1), LentMasks::terms, x -> x.ask(0, 0, 1, 1), x -> x.wearers(1), x -> x.odds(1, 0, 0, true),
                x -> x.may(1, 0), x -> x.untrue(1), x -> x.agrees(0, 0), x -> x.lovers(0, 1), x -> x.lover(0, 1, 0, true),
                x -> x.lend(0, 0, 3, 3), x -> x.give(0, 1), x -> x.pass(2, 4, 1), x -> x.breaking(0, 1, true),
                LentMasks::undo, LentMasks::redo, LentMasks::image, x -> x.back(0), x -> x.lending(0, 0),
                x -> x.mask(0, 0), x -> x.person(0, 0));
        for (int i = 0; i < calls.size(); i++) {
            LentMasks x = Town.of(Town.MARKET.replace("king", "foreign") + ";lent bear to kid from 4 until 4"
                    + ";seen ox on 1 hour 0 size 5;letter ox to cat on 2");
            x.breaking(2, 1, true);
            x.breaking(2, 2, true);
            x.undo();
            x.image();
            x.wearer(9, 9);
            Check.same("there was trouble", x.trouble(), 1);
            calls.get(i).accept(x);
            Check.same("trouble behind call " + i, x.trouble(), 0);
        }
    }
}
