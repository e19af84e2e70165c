import java.util.Arrays;
import java.util.NoSuchElementException;

/** A town that shows no faces: its masks, who is lent them, and what comes of it. */
public final class LentMasks {
    public static final int NONE = -1;

    // Stands for nobody, nothing, the guild and the peg: all of them are told as -2.
    private static final int NOBODY = -2;
    private static final int NO_BALANCE = -10_000;
    private static final int NO_WORTH = -100_000;

    private static final int TAPE_BYTES = 900;
    private static final int FEED_BYTES = 20;
    private static final int MAX_DAYS = 20;
    private static final int MAX_WORKS = 5;
    private static final int MAX_MASKS = 6;
    private static final int MAX_PERSONS = 6;
    private static final int MAX_PROMISES = 12;
    private static final int MAX_TOLD_LENDINGS = 12;
    private static final int MAX_LENDINGS = 20;
    private static final int MAX_SIGHTINGS = 8;
    private static final int MAX_LETTERS = 8;
    private static final int MAX_TOLD_BREAKS = 8;
    private static final int MAX_UNDO = 12;
    private static final int MAX_IMAGES = 3;
    private static final int MAX_CREDIT = 99;
    private static final int MAX_HABIT = 4;
    private static final int KING_HONOUR = 60;

    private static final int PLAIN = 0;
    private static final int CHILD = 1;
    private static final int FOREIGN = 2;
    private static final int DOUBLE = 3;
    private static final int KING = 4;

    private static final int NOT_REFUSED = 0;
    private static final int NO_SUCH = 1;
    private static final int BAD_NUMBER = 2;
    private static final int NO_ROOM = 3;
    private static final int FAULTY = 4;
    private static final int NOT_SO = 5;
    private static final int THERE_IS_NONE = 6;

    private static final int FORM = 1;
    private static final int UNKNOWN = 2;
    private static final int AGAIN = 3;
    private static final int BOUNDS = 4;
    private static final int MANY = 5;
    private static final int LACKS = 6;
    private static final int CANNOT_BE = 7;

    private final byte[] tape;
    private int tapeSize;
    private int trouble;
    private int fault;
    private int place;
    private Book book;
    // A text is read into this one, so that a faulty text leaves the book alone.
    private Book spare;
    private final Reader reader;
    private final History history;
    private final Planner planner;
    private final Watch watch;

    public LentMasks() {
        tape = new byte[TAPE_BYTES];
        tapeSize = 0;
        trouble = NOT_REFUSED;
        fault = 0;
        place = NONE;
        book = new Book();
        spare = new Book();
        reader = new Reader();
        history = new History();
        planner = new Planner();
        watch = new Watch();
    }

    // ---- the book

    public int feed(int a, int b, int c, int d, int e) {
        if (tapeSize + FEED_BYTES > TAPE_BYTES) {
            return NONE;
        }
        putOnTape(a);
        putOnTape(b);
        putOnTape(c);
        putOnTape(d);
        putOnTape(e);
        return tapeSize;
    }

    public int book(int n) {
        if (!admit(true, n >= 0 && n <= tapeSize)) {
            return NONE;
        }
        boolean sound = reader.read(tape, n, spare);
        tapeSize = 0;
        fault = reader.fault;
        place = reader.place;
        if (!sound) {
            refuse(FAULTY);
            return NONE;
        }
        Book former = book;
        book = spare;
        spare = former;
        history.dropImages();
        history.begin(book.told);
        return book.maskCount;
    }

    public int fault() {
        return fault;
    }

    public int where() {
        return trouble == FAULTY ? place : NONE;
    }

    // ---- days

    public int fits(int mask, int person) {
        if (!admit(book.hasMask(mask) && book.hasPerson(person), true)) {
            return NONE;
        }
        return asNumber(book.suits(mask, person));
    }

    public int wearer(int mask, int day) {
        if (!admit(book.hasMask(mask), book.hasDay(day))) {
            return NONE;
        }
        return history.now().personIn(mask, day);
    }

    public int worn(int person, int day) {
        if (!admit(book.hasPerson(person), book.hasDay(day))) {
            return NONE;
        }
        return history.now().maskOf(person, day);
    }

    public int owes(int promise) {
        if (!admit(book.hasPromise(promise), true)) {
            return NONE;
        }
        return book.debtorOf(promise, history.now());
    }

    public int done(int promise) {
        if (!admit(book.hasPromise(promise), true)) {
            return NONE;
        }
        return asNumber(book.isDone(promise, history.now()));
    }

    public int credit(int mask, int day) {
        if (!admit(book.hasMask(mask), book.hasDayOrNone(day))) {
            return NONE;
        }
        return book.creditBehind(mask, day, history.now());
    }

    public int debt(int person, int day) {
        if (!admit(book.hasPerson(person), book.hasDayOrNone(day))) {
            return NONE;
        }
        return book.finesOf(person, day, history.now());
    }

    public int gain(int person, int day) {
        if (!admit(book.hasPerson(person), book.hasDayOrNone(day))) {
            return NO_BALANCE;
        }
        return book.earningsOf(person, day, history.now()) - book.finesOf(person, day, history.now());
    }

    public int guild() {
        if (!admit(book.isTold(), true)) {
            return NONE;
        }
        return book.finesOf(NOBODY, book.days, history.now());
    }

    public int breaks(int person, int day) {
        if (!admit(book.hasPerson(person), book.hasDay(day))) {
            return NONE;
        }
        return asNumber(history.now().isBreaking(person, day));
    }

    // ---- plans, terms

    public int value(int day) {
        if (!admit(book.isTold(), book.hasDay(day))) {
            return NO_BALANCE;
        }
        planner.weigh(book, day);
        return planner.most(0);
    }

    public int plan(int day, int mask) {
        if (!admit(book.hasMask(mask), book.hasDay(day))) {
            return NONE;
        }
        planner.weigh(book, day);
        return planner.choice(mask);
    }

    public int needed(int day, int person) {
        if (!admit(book.hasPerson(person), book.hasDay(day))) {
            return NONE;
        }
        planner.weigh(book, day);
        return planner.most(0) - planner.most(1 << person);
    }

    public int worth() {
        if (!admit(book.isTold(), true)) {
            return NO_WORTH;
        }
        int sum = 0;
        for (int day = 1; day <= book.days; day++) {
            planner.weigh(book, day);
            sum += planner.most(0);
        }
        return sum;
    }

    public int real(int day) {
        if (!admit(book.isTold(), book.hasDay(day))) {
            return NO_BALANCE;
        }
        return book.balanceOn(day, history.now());
    }

    public int terms() {
        if (!admit(book.isTold(), true)) {
            return NONE;
        }
        return book.leastDeposit(history.now());
    }

    public int ask(int mask, int person, int from, int until) {
        if (!admit(book.hasMask(mask) && book.hasPerson(person), book.hasDays(from, until))) {
            return NONE;
        }
        if (!book.suits(mask, person)) {
            refuse(NOT_SO);
            return NONE;
        }
        return book.priceOf(mask, person, from, until);
    }

    // ---- who wore what

    public int wearers(int day) {
        if (!admit(book.isTold(), book.hasDay(day))) {
            return NONE;
        }
        watch.look(book, history.now(), day);
        return watch.all();
    }

    public int odds(int day, int mask, int person, boolean lower) {
        if (!admit(book.hasMask(mask) && book.hasPerson(person), book.hasDay(day))) {
            return NONE;
        }
        watch.look(book, history.now(), day);
        int all = watch.all();
        if (all == 0) {
            refuse(THERE_IS_NONE);
            return NONE;
        }
        int some = watch.allWith(mask, person);
        int divisor = commonDivisor(all, some);
        return (lower ? all : some) / divisor;
    }

    public int may(int day, int mask) {
        if (!admit(book.hasMask(mask), book.hasDay(day))) {
            return NONE;
        }
        watch.look(book, history.now(), day);
        return watch.personsIn(mask);
    }

    public int untrue(int day) {
        if (!admit(book.isTold(), book.hasDay(day))) {
            return NONE;
        }
        watch.look(book, history.now(), day);
        return watch.falseOnes;
    }

    public int agrees(int sighting, int person) {
        if (!admit(book.hasSighting(sighting) && book.hasPerson(person), true)) {
            return NONE;
        }
        Sighting seen = book.sightings[sighting];
        return asNumber(book.suits(seen.mask, person) && seen.resembles(book.persons[person]));
    }

    public int lovers(int mask, int other) {
        if (!admit(areTwoMasks(mask, other), true)) {
            return NONE;
        }
        watch.pair(book, history.now(), mask, other);
        return watch.pairCount();
    }

    public int lover(int mask, int other, int i, boolean second) {
        if (!admit(areTwoMasks(mask, other), true)) {
            return NONE;
        }
        watch.pair(book, history.now(), mask, other);
        if (i < 0 || i >= watch.pairCount()) {
            refuse(NO_SUCH);
            return NONE;
        }
        return watch.ofPair(i, second);
    }

    // ---- acts

    public boolean lend(int mask, int person, int from, int until) {
        if (!admit(book.hasMask(mask) && book.hasPerson(person), book.hasDays(from, until))) {
            return false;
        }
        if (history.now().isFull()) {
            return refuse(NO_ROOM);
        }
        if (!book.canLend(mask, person, from, until, history.now())) {
            return refuse(NOT_SO);
        }
        history.step().add(mask, person, from, until);
        return true;
    }

    public boolean give(int mask, int day) {
        if (!admit(book.hasMask(mask), book.hasDay(day))) {
            return false;
        }
        int at = history.now().find(mask, day);
        if (at < 0) {
            return refuse(THERE_IS_NONE);
        }
        history.step().endAhead(at, day);
        return true;
    }

    public boolean pass(int mask, int day, int person) {
        if (!admit(book.hasMask(mask) && book.hasPerson(person), book.hasDay(day))) {
            return false;
        }
        Ledger ledger = history.now();
        int at = ledger.find(mask, day);
        if (at < 0) {
            return refuse(THERE_IS_NONE);
        }
        if (ledger.isFull() && ledger.firstDay(at) < day) {
            return refuse(NO_ROOM);
        }
        int until = ledger.lastDay(at);
        // Whoever has it already has a mask on these days, so one question answers both.
        if (!book.suits(mask, person) || !ledger.isBare(person, day, until)) {
            return refuse(NOT_SO);
        }
        Ledger changed = history.step();
        changed.endAhead(at, day);
        changed.add(mask, person, day, until);
        return true;
    }

    public boolean breaking(int person, int day, boolean is) {
        if (!admit(book.hasPerson(person), book.hasDay(day))) {
            return false;
        }
        if (history.now().isBreaking(person, day) == is) {
            return refuse(NOT_SO);
        }
        history.step().flipBreaking(person, day);
        return true;
    }

    public boolean undo() {
        trouble = history.stepBack() ? NOT_REFUSED : THERE_IS_NONE;
        return trouble == NOT_REFUSED;
    }

    public boolean redo() {
        trouble = history.stepForth() ? NOT_REFUSED : THERE_IS_NONE;
        return trouble == NOT_REFUSED;
    }

    public int image() {
        if (!admit(book.isTold(), true)) {
            return NONE;
        }
        if (history.imageCount >= MAX_IMAGES) {
            refuse(NO_ROOM);
            return NONE;
        }
        return history.keepImage();
    }

    public boolean back(int image) {
        if (!admit(image >= 0 && image < history.imageCount, true)) {
            return false;
        }
        history.begin(history.images[image]);
        return true;
    }

    // ---- what is seen

    public int lending(int i, int what) {
        Ledger ledger = history.now();
        if (!admit(i >= 0 && i < ledger.count && what >= 0 && what <= 3, true)) {
            return NONE;
        }
        switch (what) {
            case 0: return ledger.maskAt(i);
            case 1: return ledger.personAt(i);
            case 2: return ledger.firstDay(i);
            default: return ledger.lastDay(i);
        }
    }

    public int mask(int m, int what) {
        if (!admit(book.hasMask(m) && what >= 0 && what <= 1, true)) {
            return NONE;
        }
        return what == 0 ? book.masks[m].kind : book.masks[m].size;
    }

    public int person(int p, int what) {
        if (!admit(book.hasPerson(p) && what >= 0 && what <= 4, true)) {
            return NONE;
        }
        Person person = book.persons[p];
        switch (what) {
            case 0: return person.size;
            case 1: return person.honour;
            case 2: return asNumber(person.child);
            case 3: return person.habit;
            default: return person.works;
        }
    }

    public int led(int day, int i) throws NoSuchElementException {
        if (!book.hasDay(day) || i < 0) {
            throw new NoSuchElementException();
        }
        int left = i;
        for (int mask = 0; mask < book.maskCount; mask++) {
            if (history.now().find(mask, day) < 0) {
                if (left == 0) {
                    return mask;
                }
                left--;
            }
        }
        throw new NoSuchElementException();
    }

    public int size(int what) {
        switch (what) {
            case 0: return book.maskCount;
            case 1: return book.personCount;
            case 2: return book.workCount;
            case 3: return book.promiseCount;
            case 4: return history.now().count;
            case 5: return book.sightingCount;
            case 6: return book.letterCount;
            case 7: return book.days;
            case 8: return history.undoable;
            case 9: return history.redoable;
            case 10: return history.imageCount;
            case 11: return tapeSize;
            default: return NONE;
        }
    }

    public int trouble() {
        return trouble;
    }

    // ---- what the face leans on

    /** Sets TROUBLE: what isn't there counts ahead of a number that is out of bounds. */
    private boolean admit(boolean isThere, boolean isInBounds) {
        if (!isThere) {
            trouble = NO_SUCH;
        } else if (!isInBounds) {
            trouble = BAD_NUMBER;
        } else {
            trouble = NOT_REFUSED;
        }
        return trouble == NOT_REFUSED;
    }

    private boolean refuse(int number) {
        trouble = number;
        return false;
    }

    private void putOnTape(int number) {
        for (int shift = 24; shift >= 0 && tapeSize < TAPE_BYTES; shift -= 8) {
            tape[tapeSize] = (byte) (number >>> shift);
            tapeSize++;
        }
    }

    private boolean areTwoMasks(int mask, int other) {
        return book.hasMask(mask) && book.hasMask(other) && mask != other;
    }

    private static int asNumber(boolean is) {
        return is ? 1 : 0;
    }

    /** At least 1, whatever comes, so that it may divide. */
    private static int commonDivisor(int a, int b) {
        int greater = a;
        int lesser = b;
        // Two steps of Euclid halve an int at least, so 64 are enough for any pair.
        for (int i = 0; i < 64 && lesser != 0; i++) {
            int rest = greater % lesser;
            greater = lesser;
            lesser = rest;
        }
        return Math.max(1, greater);
    }

    private static final class Mask {
        int kind;
        int size;
        int credit;

        boolean suits(Person person) {
            int apart = Math.abs(size - person.size);
            switch (kind) {
                case PLAIN: return apart <= 1;
                case CHILD: return apart <= 1 && person.child;
                case FOREIGN: return true;
                case DOUBLE: return apart == 0;
                default: return apart <= 1 && person.honour >= KING_HONOUR;
            }
        }

        /** How many promises of one day this mask can see done. */
        int hands() {
            return kind == DOUBLE ? 2 : 1;
        }
    }

    private static final class Person {
        int size;
        int honour;
        boolean child;
        int habit;
        int works;

        boolean knows(int work) {
            return (works >> work & 1) != 0;
        }
    }

    private static final class Promise {
        int mask;
        int work;
        int day;
        int worth;
        int fine;
        int effort;

        boolean isOf(int someMask, int someDay) {
            return mask == someMask && day == someDay;
        }

        int yields(boolean isDone) {
            return isDone ? worth : -fine;
        }
    }

    private static final class Sighting {
        int mask;
        int day;
        int hour;
        int size;
        int habit;

        boolean resembles(Person person) {
            return Math.abs(size - person.size) <= 1 && (habit == 0 || habit == person.habit);
        }

        boolean clashesWith(Sighting other) {
            return mask == other.mask && day == other.day && hour == other.hour;
        }
    }

    /** All that the text tells and no act changes, and the ledger that it begins with. */
    private static final class Book {
        int days;
        int workCount;
        int maskCount;
        int personCount;
        int promiseCount;
        int sightingCount;
        int letterCount;
        final Mask[] masks = new Mask[MAX_MASKS];
        final Person[] persons = new Person[MAX_PERSONS];
        final Promise[] promises = new Promise[MAX_PROMISES];
        final Sighting[] sightings = new Sighting[MAX_SIGHTINGS];
        final int[] letterFrom = new int[MAX_LETTERS];
        final int[] letterTo = new int[MAX_LETTERS];
        final int[] letterDay = new int[MAX_LETTERS];
        final Ledger told = new Ledger();

        Book() {
            for (int i = 0; i < MAX_MASKS; i++) {
                masks[i] = new Mask();
            }
            for (int i = 0; i < MAX_PERSONS; i++) {
                persons[i] = new Person();
            }
            for (int i = 0; i < MAX_PROMISES; i++) {
                promises[i] = new Promise();
            }
            for (int i = 0; i < MAX_SIGHTINGS; i++) {
                sightings[i] = new Sighting();
            }
        }

        void clear() {
            days = 0;
            workCount = 0;
            maskCount = 0;
            personCount = 0;
            promiseCount = 0;
            sightingCount = 0;
            letterCount = 0;
            told.clear();
        }

        boolean isTold() {
            return days > 0;
        }

        boolean hasMask(int mask) {
            return mask >= 0 && mask < maskCount;
        }

        boolean hasPerson(int person) {
            return person >= 0 && person < personCount;
        }

        boolean hasPromise(int promise) {
            return promise >= 0 && promise < promiseCount;
        }

        boolean hasSighting(int sighting) {
            return sighting >= 0 && sighting < sightingCount;
        }

        boolean hasDay(int day) {
            return day >= 1 && day <= days;
        }

        boolean hasDayOrNone(int day) {
            return day >= 0 && day <= days;
        }

        boolean hasDays(int from, int until) {
            return hasDay(from) && hasDay(until) && from <= until;
        }

        boolean suits(int mask, int person) {
            return masks[mask].suits(persons[person]);
        }

        boolean canLend(int mask, int person, int from, int until, Ledger ledger) {
            return suits(mask, person) && ledger.isOnPeg(mask, from, until) && ledger.isBare(person, from, until);
        }

        boolean couldDo(int person, int promise) {
            return hasPerson(person) && persons[person].knows(promises[promise].work);
        }

        /** Whether a person that wears its mask on its day, and doesn't break, does a promise. */
        boolean wouldDo(int person, int promise) {
            if (!couldDo(person, promise)) {
                return false;
            }
            Promise asked = promises[promise];
            int ahead = 0;
            for (int i = 0; i < promise; i++) {
                if (promises[i].isOf(asked.mask, asked.day) && couldDo(person, i)) {
                    ahead++;
                }
            }
            return ahead < masks[asked.mask].hands();
        }

        int debtorOf(int promise, Ledger ledger) {
            return ledger.personIn(promises[promise].mask, promises[promise].day);
        }

        boolean isDone(int promise, Ledger ledger) {
            int person = debtorOf(promise, ledger);
            return wouldDo(person, promise) && !ledger.isBreaking(person, promises[promise].day);
        }

        int creditBehind(int mask, int day, Ledger ledger) {
            int credit = masks[mask].credit;
            for (int d = 1; d <= day; d++) {
                for (int i = 0; i < promiseCount; i++) {
                    if (promises[i].isOf(mask, d)) {
                        int changed = credit + promises[i].yields(isDone(i, ledger));
                        credit = Math.max(0, Math.min(MAX_CREDIT, changed));
                    }
                }
            }
            return credit;
        }

        int finesOf(int debtor, int day, Ledger ledger) {
            int sum = 0;
            for (int i = 0; i < promiseCount; i++) {
                if (promises[i].day <= day && debtorOf(i, ledger) == debtor && !isDone(i, ledger)) {
                    sum += promises[i].fine;
                }
            }
            return sum;
        }

        int earningsOf(int person, int day, Ledger ledger) {
            int sum = 0;
            for (int i = 0; i < promiseCount; i++) {
                if (promises[i].day <= day && debtorOf(i, ledger) == person && isDone(i, ledger)) {
                    sum += promises[i].worth - promises[i].effort;
                }
            }
            return sum;
        }

        int balanceOn(int day, Ledger ledger) {
            int sum = 0;
            for (int i = 0; i < promiseCount; i++) {
                if (promises[i].day == day) {
                    sum += promises[i].yields(isDone(i, ledger));
                }
            }
            return sum;
        }

        int balanceIf(int mask, int person, int day) {
            int sum = 0;
            for (int i = 0; i < promiseCount; i++) {
                if (promises[i].isOf(mask, day)) {
                    sum += promises[i].yields(wouldDo(person, i));
                }
            }
            return sum;
        }

        int leastDeposit(Ledger ledger) {
            int deposit = 0;
            for (int i = 0; i < promiseCount; i++) {
                if (isBeforeHandingOn(i, ledger)) {
                    if (promises[i].effort > promises[i].fine) {
                        return NOBODY;
                    }
                    deposit = Math.max(deposit, promises[i].effort);
                }
            }
            return deposit;
        }

        private boolean isBeforeHandingOn(int promise, Ledger ledger) {
            int at = ledger.find(promises[promise].mask, promises[promise].day);
            return at >= 0
                    && ledger.lastDay(at) == promises[promise].day
                    && couldDo(ledger.personAt(at), promise);
        }

        int priceOf(int mask, int person, int from, int until) {
            int fines = 0;
            for (int i = 0; i < promiseCount; i++) {
                Promise promise = promises[i];
                if (promise.mask == mask && promise.day >= from && promise.day <= until) {
                    fines += promise.fine;
                }
            }
            return (fines * (100 - persons[person].honour) + 99) / 100;
        }
    }

    /** The lendings, in order of masks and days, and the days on which persons break. */
    private static final class Ledger {
        int count;
        // Mask, first day, last day, person from the highest bits on, so that rows sort as numbers.
        private final int[] rows = new int[MAX_LENDINGS];
        private final int[] breakDays = new int[MAX_PERSONS];

        void clear() {
            count = 0;
            Arrays.fill(breakDays, 0);
        }

        void copyFrom(Ledger other) {
            count = other.count;
            System.arraycopy(other.rows, 0, rows, 0, MAX_LENDINGS);
            System.arraycopy(other.breakDays, 0, breakDays, 0, MAX_PERSONS);
        }

        boolean isFull() {
            return count >= MAX_LENDINGS;
        }

        int maskAt(int at) {
            return rows[at] >> 15;
        }

        int firstDay(int at) {
            return rows[at] >> 10 & 31;
        }

        int lastDay(int at) {
            return rows[at] >> 5 & 31;
        }

        int personAt(int at) {
            return rows[at] & 31;
        }

        private boolean touches(int at, int from, int until) {
            return firstDay(at) <= until && lastDay(at) >= from;
        }

        /** The lending of a mask on a day; NONE if it isn't lent then. */
        int find(int mask, int day) {
            for (int i = 0; i < count; i++) {
                if (maskAt(i) == mask && touches(i, day, day)) {
                    return i;
                }
            }
            return NONE;
        }

        int personIn(int mask, int day) {
            int at = find(mask, day);
            return at < 0 ? NOBODY : personAt(at);
        }

        int maskOf(int person, int day) {
            for (int i = 0; i < count; i++) {
                if (personAt(i) == person && touches(i, day, day)) {
                    return maskAt(i);
                }
            }
            return NOBODY;
        }

        boolean isOnPeg(int mask, int from, int until) {
            for (int i = 0; i < count; i++) {
                if (maskAt(i) == mask && touches(i, from, until)) {
                    return false;
                }
            }
            return true;
        }

        boolean isBare(int person, int from, int until) {
            for (int i = 0; i < count; i++) {
                if (personAt(i) == person && touches(i, from, until)) {
                    return false;
                }
            }
            return true;
        }

        void add(int mask, int person, int from, int until) {
            if (isFull()) {
                return;
            }
            int row = mask << 15 | from << 10 | until << 5 | person;
            int at = count;
            while (at > 0 && rows[at - 1] > row) {
                rows[at] = rows[at - 1];
                at--;
            }
            rows[at] = row;
            count++;
        }

        /** The lending ends ahead of the day; nothing stays of it if it begins then. */
        void endAhead(int at, int day) {
            if (firstDay(at) < day) {
                rows[at] = rows[at] & ~(31 << 5) | day - 1 << 5;
                return;
            }
            for (int i = at + 1; i < count; i++) {
                rows[i - 1] = rows[i];
            }
            count--;
        }

        boolean isBreaking(int person, int day) {
            return (breakDays[person] >> day & 1) != 0;
        }

        void flipBreaking(int person, int day) {
            breakDays[person] ^= 1 << day;
        }
    }

    /** The ledger of now with those that undo and redo lead to, and the images. */
    private static final class History {
        // Those kept lie round a ring: one for each act that can be undone, and that of now.
        private static final int RING = MAX_UNDO + 1;

        private final Ledger[] ring = new Ledger[RING];
        private int at;
        int undoable;
        int redoable;
        final Ledger[] images = new Ledger[MAX_IMAGES];
        int imageCount;

        History() {
            for (int i = 0; i < RING; i++) {
                ring[i] = new Ledger();
            }
            for (int i = 0; i < MAX_IMAGES; i++) {
                images[i] = new Ledger();
            }
        }

        Ledger now() {
            return ring[at];
        }

        /** The ledger is as this one, and no act came ahead of it. */
        void begin(Ledger ledger) {
            ring[at].copyFrom(ledger);
            undoable = 0;
            redoable = 0;
        }

        void dropImages() {
            imageCount = 0;
        }

        /** A copy of the ledger of now takes its place, for an act to change. */
        Ledger step() {
            Ledger former = ring[at];
            at = (at + 1) % RING;
            ring[at].copyFrom(former);
            undoable = Math.min(MAX_UNDO, undoable + 1);
            redoable = 0;
            return ring[at];
        }

        boolean stepBack() {
            if (undoable == 0) {
                return false;
            }
            at = (at + RING - 1) % RING;
            undoable--;
            redoable++;
            return true;
        }

        boolean stepForth() {
            if (redoable == 0) {
                return false;
            }
            at = (at + 1) % RING;
            undoable++;
            redoable--;
            return true;
        }

        int keepImage() {
            if (imageCount >= MAX_IMAGES) {
                return NONE;
            }
            images[imageCount].copyFrom(ring[at]);
            imageCount++;
            return imageCount - 1;
        }
    }

    /** PLAN of a day, by what the masks from some one on can yield to the persons that are free. */
    private static final class Planner {
        private static final int SETS = 1 << MAX_PERSONS;

        private Book book;
        private final int[] onPeg = new int[MAX_MASKS];
        private final int[] byPerson = new int[MAX_MASKS * MAX_PERSONS];
        // Persons that make a mask yield more than its peg; no other one is ever in the first best plan.
        private final int[] helpers = new int[MAX_MASKS];
        // For each mask and each set of persons that have one: the most of this mask and those behind it.
        private final int[] best = new int[(MAX_MASKS + 1) * SETS];

        void weigh(Book told, int day) {
            book = told;
            for (int mask = 0; mask < book.maskCount; mask++) {
                weighMask(mask, day);
            }
            Arrays.fill(best, book.maskCount * SETS, (book.maskCount + 1) * SETS, 0);
            for (int mask = book.maskCount - 1; mask >= 0; mask--) {
                for (int taken = 0; taken < SETS; taken++) {
                    best[mask * SETS + taken] = mostFrom(mask, taken);
                }
            }
        }

        private void weighMask(int mask, int day) {
            onPeg[mask] = book.balanceIf(mask, NOBODY, day);
            helpers[mask] = 0;
            for (int person = 0; person < book.personCount; person++) {
                if (book.suits(mask, person)) {
                    int balance = book.balanceIf(mask, person, day);
                    byPerson[mask * MAX_PERSONS + person] = balance;
                    helpers[mask] |= balance > onPeg[mask] ? 1 << person : 0;
                }
            }
        }

        private int mostFrom(int mask, int taken) {
            int most = withPeg(mask, taken);
            int free = helpers[mask] & ~taken;
            for (int person = 0; person < book.personCount; person++) {
                if ((free >> person & 1) != 0) {
                    most = Math.max(most, withPerson(mask, taken, person));
                }
            }
            return most;
        }

        private int withPeg(int mask, int taken) {
            return onPeg[mask] + best[(mask + 1) * SETS + taken];
        }

        private int withPerson(int mask, int taken, int person) {
            return byPerson[mask * MAX_PERSONS + person] + best[(mask + 1) * SETS + (taken | 1 << person)];
        }

        /** The most that can be had without these persons. */
        int most(int without) {
            return best[without];
        }

        int choice(int wanted) {
            int taken = 0;
            int chosen = NOBODY;
            for (int mask = 0; mask <= wanted; mask++) {
                chosen = firstBest(mask, taken);
                if (chosen >= 0) {
                    taken |= 1 << chosen;
                }
            }
            return chosen;
        }

        private int firstBest(int mask, int taken) {
            int most = best[mask * SETS + taken];
            if (withPeg(mask, taken) == most) {
                return NOBODY;
            }
            int free = helpers[mask] & ~taken;
            for (int person = 0; person < book.personCount; person++) {
                if ((free >> person & 1) != 0 && withPerson(mask, taken, person) == most) {
                    return person;
                }
            }
            return NOBODY;
        }
    }

    /** WEARERS of a day, FALSE sightings, LOVERS. */
    private static final class Watch {
        private Book book;
        /** FALSE of the day that was looked at, as bits; NOBODY if nothing does. */
        int falseOnes;
        private int ofDay;
        private final int[] lentTo = new int[MAX_MASKS];
        // For each mask those that the ledger leaves for it, worn or not, as bits.
        private final int[] wearable = new int[MAX_MASKS];
        // For each sighting of the day the persons that it may have been, as bits.
        private final int[] resembling = new int[MAX_SIGHTINGS];
        private final int[] candidates = new int[MAX_MASKS];
        private final boolean[] pegged = new boolean[MAX_MASKS];
        // For each person in the first mask those that may be in the second, as bits.
        private final int[] partners = new int[MAX_PERSONS];

        void look(Book told, Ledger ledger, int day) {
            book = told;
            note(ledger, day);
            falseOnes = NOBODY;
            int fewest = MAX_SIGHTINGS + 1;
            // Rising bits, and only fewer ones take the place of those found: the least bits stay.
            for (int bits = 0; bits < 1 << book.sightingCount; bits++) {
                if ((bits & ~ofDay) == 0 && Integer.bitCount(bits) < fewest && holdsWithout(bits)) {
                    falseOnes = bits;
                    fewest = Integer.bitCount(bits);
                }
            }
            if (falseOnes >= 0) {
                arrange(ofDay & ~falseOnes);
            }
        }

        private void note(Ledger ledger, int day) {
            for (int mask = 0; mask < book.maskCount; mask++) {
                lentTo[mask] = ledger.personIn(mask, day);
                wearable[mask] = lentTo[mask] < 0 ? personsFor(mask) : 1 << lentTo[mask];
            }
            ofDay = 0;
            for (int i = 0; i < book.sightingCount; i++) {
                if (book.sightings[i].day == day) {
                    ofDay |= 1 << i;
                    resembling[i] = personsLike(book.sightings[i]);
                }
            }
        }

        private int personsLike(Sighting seen) {
            int bits = 0;
            for (int person = 0; person < book.personCount; person++) {
                if (seen.resembles(book.persons[person])) {
                    bits |= 1 << person;
                }
            }
            return bits;
        }

        private boolean holdsWithout(int bits) {
            int rest = ofDay & ~bits;
            if (isTwiceAtOnce(rest)) {
                return false;
            }
            arrange(rest);
            return ways(0, 0) > 0;
        }

        private boolean isTwiceAtOnce(int rest) {
            for (int i = 0; i < book.sightingCount; i++) {
                for (int j = 0; j < i; j++) {
                    if ((rest >> i & rest >> j & 1) != 0
                            && book.sightings[i].clashesWith(book.sightings[j])
                            && book.masks[book.sightings[i].mask].kind != DOUBLE) {
                        return true;
                    }
                }
            }
            return false;
        }

        /** For each mask who may wear it, if these sightings are true. */
        private void arrange(int rest) {
            for (int mask = 0; mask < book.maskCount; mask++) {
                pegged[mask] = lentTo[mask] < 0;
                candidates[mask] = wearable[mask];
            }
            for (int i = 0; i < book.sightingCount; i++) {
                if ((rest >> i & 1) != 0) {
                    pegged[book.sightings[i].mask] = false;
                    candidates[book.sightings[i].mask] &= resembling[i];
                }
            }
        }

        private int personsFor(int mask) {
            int bits = 0;
            for (int person = 0; person < book.personCount; person++) {
                if (book.suits(mask, person)) {
                    bits |= 1 << person;
                }
            }
            return bits;
        }

        /** In how many ways this mask and those behind it can be worn by those that have none. */
        private int ways(int mask, int taken) {
            if (mask >= book.maskCount) {
                return 1;
            }
            if (pegged[mask]) {
                return ways(mask + 1, taken);
            }
            int sum = 0;
            int free = candidates[mask] & ~taken;
            for (int person = 0; person < book.personCount; person++) {
                if ((free >> person & 1) != 0) {
                    sum += ways(mask + 1, taken | 1 << person);
                }
            }
            return sum;
        }

        int all() {
            return falseOnes < 0 ? 0 : ways(0, 0);
        }

        int allWith(int mask, int person) {
            int kept = candidates[mask];
            if (falseOnes < 0 || pegged[mask] || (kept >> person & 1) == 0) {
                return 0;
            }
            candidates[mask] = 1 << person;
            int count = ways(0, 0);
            candidates[mask] = kept;
            return count;
        }

        int personsIn(int mask) {
            int bits = 0;
            for (int person = 0; person < book.personCount; person++) {
                if (allWith(mask, person) > 0) {
                    bits |= 1 << person;
                }
            }
            return bits;
        }

        void pair(Book told, Ledger ledger, int mask, int other) {
            book = told;
            int days = letterDays(mask, other);
            Arrays.fill(partners, days == 0 ? 0 : (1 << book.personCount) - 1);
            for (int day = 1; day <= book.days; day++) {
                if ((days >> day & 1) != 0) {
                    look(told, ledger, day);
                    keepPartners(mask, other);
                }
            }
        }

        private int letterDays(int mask, int other) {
            int days = 0;
            for (int i = 0; i < book.letterCount; i++) {
                int from = book.letterFrom[i];
                int to = book.letterTo[i];
                if (from == mask && to == other || from == other && to == mask) {
                    days |= 1 << book.letterDay[i];
                }
            }
            return days;
        }

        private void keepPartners(int mask, int other) {
            int kept = candidates[mask];
            for (int person = 0; person < book.personCount; person++) {
                if (pegged[mask] || (kept >> person & 1) == 0) {
                    partners[person] = 0;
                } else {
                    candidates[mask] = 1 << person;
                    partners[person] &= personsIn(other);
                }
            }
            candidates[mask] = kept;
        }

        int pairCount() {
            int count = 0;
            for (int person = 0; person < book.personCount; person++) {
                count += Integer.bitCount(partners[person]);
            }
            return count;
        }

        int ofPair(int i, boolean second) {
            int left = i;
            for (int person = 0; person < book.personCount; person++) {
                for (int partner = 0; partner < book.personCount; partner++) {
                    if ((partners[person] >> partner & 1) != 0) {
                        if (left == 0) {
                            return second ? partner : person;
                        }
                        left--;
                    }
                }
            }
            return NONE;
        }
    }

    /** The tokens of a text, one at a time. */
    private static final class Tokens {
        static final int END = 0;
        static final int WORD = 1;
        static final int WHOLE = 2;
        static final int SEMICOLON = 3;
        static final int COMMA = 4;
        static final int NO_TOKEN = 5;

        private static final int WORD_LETTERS = 8;
        private static final int WHOLE_DIGITS = 3;

        private byte[] text = new byte[0];
        private int length;
        private int next;
        int sort;
        int start;
        /** Where the token ahead of this one begins. */
        int before;
        int whole;
        /** The letters of a word as one number, five bits each. */
        long letters;

        void open(byte[] bytes, int count) {
            text = bytes;
            length = Math.min(count, bytes.length);
            next = 0;
            start = 0;
        }

        void advance() {
            before = start;
            while (next < length && text[next] == ' ') {
                next++;
            }
            start = next;
            int sign = next < length ? text[next] : -1;
            if (next >= length) {
                sort = END;
            } else if (sign >= 'a' && sign <= 'z') {
                readWord();
            } else if (sign >= '0' && sign <= '9') {
                readWhole();
            } else {
                sort = sign == ';' ? SEMICOLON : sign == ',' ? COMMA : NO_TOKEN;
                next++;
            }
        }

        private void readWord() {
            letters = 0;
            while (next < length && text[next] >= 'a' && text[next] <= 'z') {
                letters = letters << 5 | text[next] - 'a' + 1;
                next++;
            }
            sort = next - start <= WORD_LETTERS ? WORD : NO_TOKEN;
        }

        static long lettersOf(String word) {
            long letters = 0;
            for (int i = 0; i < word.length(); i++) {
                letters = letters << 5 | word.charAt(i) - 'a' + 1;
            }
            return letters;
        }

        private void readWhole() {
            whole = 0;
            while (next < length && text[next] >= '0' && text[next] <= '9') {
                whole = whole * 10 + text[next] - '0';
                next++;
            }
            sort = next - start <= WHOLE_DIGITS ? WHOLE : NO_TOKEN;
        }

        boolean isWord(String word) {
            if (sort != WORD || word.length() != next - start) {
                return false;
            }
            for (int i = 0; i < word.length(); i++) {
                if (text[start + i] != word.charAt(i)) {
                    return false;
                }
            }
            return true;
        }
    }

    /** Reads a text into a book, up to its first fault. */
    private static final class Reader {
        private static final int WORK_NAME = 0;
        private static final int MASK_NAME = 1;
        private static final int PERSON_NAME = 2;
        private static final int RESERVED = 3;
        private static final int RESERVED_WORDS = 13;
        private static final int MAX_NAMES = RESERVED_WORDS + MAX_WORKS + MAX_MASKS + MAX_PERSONS;

        int fault;
        int place;
        private Book book;
        private final Tokens tokens = new Tokens();
        private final long[] names = new long[MAX_NAMES];
        private final int[] nameSorts = new int[MAX_NAMES];
        private final int[] nameNumbers = new int[MAX_NAMES];
        private int nameCount;
        private int breakCount;
        // What the latest whole, or the latest name that was told ahead, stands for.
        private int number;

        Reader() {
            reserve("town");
            reserve("work");
            reserve("mask");
            reserve("person");
            reserve("promise");
            reserve("lent");
            reserve("seen");
            reserve("letter");
            reserve("break");
            reserve("child");
            reserve("habit");
            reserve("does");
            reserve("size");
        }

        private void reserve(String word) {
            if (nameCount < RESERVED_WORDS) {
                names[nameCount] = Tokens.lettersOf(word);
                nameSorts[nameCount] = RESERVED;
                nameCount++;
            }
        }

        boolean read(byte[] tape, int length, Book target) {
            fault = 0;
            place = NONE;
            book = target;
            book.clear();
            nameCount = RESERVED_WORDS;
            breakCount = 0;
            tokens.open(tape, length);
            boolean goesOn = true;
            for (int i = 0; goesOn && i <= length; i++) {
                tokens.advance();
                if (!readLine()) {
                    return false;
                }
                goesOn = tokens.sort == Tokens.SEMICOLON;
            }
            return readEnd();
        }

        private boolean readEnd() {
            if (tokens.sort != Tokens.END) {
                return failHere(FORM);
            }
            if (book.days == 0 || book.maskCount == 0 || book.personCount == 0) {
                return failHere(LACKS);
            }
            return true;
        }

        private boolean readLine() {
            if (passWord("town")) {
                return readTown();
            } else if (passWord("work")) {
                return readWorks();
            } else if (passWord("mask")) {
                return readMask();
            } else if (passWord("person")) {
                return readPerson();
            } else if (passWord("promise")) {
                return readPromise();
            } else if (passWord("lent")) {
                return readLent();
            } else if (passWord("seen")) {
                return readSeen();
            } else if (passWord("letter")) {
                return readLetter();
            } else if (passWord("break")) {
                return readBreak();
            }
            return failHere(FORM);
        }

        private boolean readTown() {
            if (book.days > 0) {
                return failBefore(AGAIN);
            }
            if (!needWhole("days", 1, MAX_DAYS)) {
                return false;
            }
            book.days = number;
            return true;
        }

        private boolean readWorks() {
            // The room for works ends the loop, if the text doesn't.
            for (int i = 0; i <= MAX_WORKS; i++) {
                if (!needNewName(WORK_NAME, book.workCount)) {
                    return false;
                }
                if (book.workCount >= MAX_WORKS) {
                    return failBefore(MANY);
                }
                book.workCount++;
                if (!passComma()) {
                    return true;
                }
            }
            return true;
        }

        private boolean readMask() {
            if (book.maskCount >= MAX_MASKS) {
                return failBefore(MANY);
            }
            Mask mask = book.masks[book.maskCount];
            if (!needNewName(MASK_NAME, book.maskCount) || !needKind()) {
                return false;
            }
            mask.kind = number;
            if (!needWhole("size", 1, 9)) {
                return false;
            }
            mask.size = number;
            if (!needWhole("credit", 0, MAX_CREDIT)) {
                return false;
            }
            mask.credit = number;
            book.maskCount++;
            return true;
        }

        private boolean readPerson() {
            if (book.personCount >= MAX_PERSONS) {
                return failBefore(MANY);
            }
            Person person = book.persons[book.personCount];
            if (!needNewName(PERSON_NAME, book.personCount) || !needWhole("size", 1, 9)) {
                return false;
            }
            person.size = number;
            if (!needWhole("honour", 0, 99)) {
                return false;
            }
            person.honour = number;
            person.child = passWord("child");
            number = 0;
            if (tokens.isWord("habit") && !needWhole("habit", 1, MAX_HABIT)) {
                return false;
            }
            person.habit = number;
            person.works = 0;
            if (passWord("does") && !readPersonsWorks(person)) {
                return false;
            }
            book.personCount++;
            return true;
        }

        private boolean readPersonsWorks(Person person) {
            // One told again ends the loop, as there are no more unlike ones than works.
            for (int i = 0; i <= MAX_WORKS; i++) {
                if (!needTold(WORK_NAME)) {
                    return false;
                }
                if (person.knows(number)) {
                    return failBefore(AGAIN);
                }
                person.works |= 1 << number;
                if (!passComma()) {
                    return true;
                }
            }
            return true;
        }

        private boolean readPromise() {
            if (!needRoom(book.promiseCount, MAX_PROMISES) || !needTold(MASK_NAME)) {
                return false;
            }
            Promise promise = book.promises[book.promiseCount];
            promise.mask = number;
            if (!needTold(WORK_NAME)) {
                return false;
            }
            promise.work = number;
            if (!needWhole("on", 1, book.days)) {
                return false;
            }
            promise.day = number;
            if (!needWhole("worth", 0, 99)) {
                return false;
            }
            promise.worth = number;
            if (!needWhole("fine", 0, 99)) {
                return false;
            }
            promise.fine = number;
            if (!needWhole("effort", 0, 99)) {
                return false;
            }
            promise.effort = number;
            book.promiseCount++;
            return true;
        }

        private boolean readLent() {
            if (!needRoom(book.told.count, MAX_TOLD_LENDINGS) || !needTold(MASK_NAME)) {
                return false;
            }
            int mask = number;
            if (!needWord("to") || !needTold(PERSON_NAME)) {
                return false;
            }
            int person = number;
            if (!needWhole("from", 1, book.days)) {
                return false;
            }
            int from = number;
            if (!needWhole("until", from, book.days)) {
                return false;
            }
            if (!book.canLend(mask, person, from, number, book.told)) {
                return failBefore(CANNOT_BE);
            }
            book.told.add(mask, person, from, number);
            return true;
        }

        private boolean readSeen() {
            if (!needRoom(book.sightingCount, MAX_SIGHTINGS) || !needTold(MASK_NAME)) {
                return false;
            }
            Sighting seen = book.sightings[book.sightingCount];
            seen.mask = number;
            if (!needWhole("on", 1, book.days)) {
                return false;
            }
            seen.day = number;
            if (!needWhole("hour", 0, 23)) {
                return false;
            }
            seen.hour = number;
            if (!needWhole("size", 1, 9)) {
                return false;
            }
            seen.size = number;
            number = 0;
            if (tokens.isWord("habit") && !needWhole("habit", 1, MAX_HABIT)) {
                return false;
            }
            seen.habit = number;
            book.sightingCount++;
            return true;
        }

        private boolean readLetter() {
            if (!needRoom(book.letterCount, MAX_LETTERS) || !needTold(MASK_NAME)) {
                return false;
            }
            int from = number;
            if (!needWord("to") || !needTold(MASK_NAME)) {
                return false;
            }
            if (number == from) {
                return failBefore(AGAIN);
            }
            int to = number;
            if (!needWhole("on", 1, book.days)) {
                return false;
            }
            book.letterFrom[book.letterCount] = from;
            book.letterTo[book.letterCount] = to;
            book.letterDay[book.letterCount] = number;
            book.letterCount++;
            return true;
        }

        private boolean readBreak() {
            if (!needRoom(breakCount, MAX_TOLD_BREAKS) || !needTold(PERSON_NAME)) {
                return false;
            }
            int person = number;
            if (!needWhole("on", 1, book.days)) {
                return false;
            }
            if (book.told.isBreaking(person, number)) {
                return failBefore(AGAIN);
            }
            book.told.flipBreaking(person, number);
            breakCount++;
            return true;
        }

        /** What stands at the first word of a line with a day. */
        private boolean needRoom(int count, int room) {
            if (book.days == 0) {
                return failBefore(LACKS);
            }
            return count < room || failBefore(MANY);
        }

        private boolean needWord(String word) {
            return passWord(word) || failHere(FORM);
        }

        private boolean needWhole(String word, int least, int most) {
            if (!passWord(word) || tokens.sort != Tokens.WHOLE) {
                return failHere(FORM);
            }
            number = tokens.whole;
            tokens.advance();
            return number >= least && number <= most || failBefore(BOUNDS);
        }

        private boolean needKind() {
            if (passWord("plain")) {
                number = PLAIN;
            } else if (passWord("child")) {
                number = CHILD;
            } else if (passWord("foreign")) {
                number = FOREIGN;
            } else if (passWord("double")) {
                number = DOUBLE;
            } else if (passWord("king")) {
                number = KING;
            } else {
                return failHere(FORM);
            }
            return true;
        }

        private boolean needNewName(int sort, int itsNumber) {
            int at = findName();
            if (!isName(at)) {
                return failHere(FORM);
            }
            if (at >= 0) {
                return failHere(AGAIN);
            }
            // A work too many is refused by its reader, at this name: the table need not hold it.
            if (nameCount < MAX_NAMES) {
                names[nameCount] = tokens.letters;
                nameSorts[nameCount] = sort;
                nameNumbers[nameCount] = itsNumber;
                nameCount++;
            }
            tokens.advance();
            return true;
        }

        private boolean needTold(int sort) {
            int at = findName();
            if (!isName(at)) {
                return failHere(FORM);
            }
            if (at < 0 || nameSorts[at] != sort) {
                return failHere(UNKNOWN);
            }
            number = nameNumbers[at];
            tokens.advance();
            return true;
        }

        private boolean isName(int at) {
            return tokens.sort == Tokens.WORD && (at < 0 || nameSorts[at] != RESERVED);
        }

        /** Where the word that stands here is among those known; NONE if it isn't. */
        private int findName() {
            for (int i = 0; i < nameCount; i++) {
                if (names[i] == tokens.letters) {
                    return i;
                }
            }
            return NONE;
        }

        private boolean passWord(String word) {
            if (!tokens.isWord(word)) {
                return false;
            }
            tokens.advance();
            return true;
        }

        private boolean passComma() {
            if (tokens.sort != Tokens.COMMA) {
                return false;
            }
            tokens.advance();
            return true;
        }

        private boolean failHere(int number) {
            fault = number;
            place = tokens.start;
            return false;
        }

        private boolean failBefore(int number) {
            fault = number;
            place = tokens.before;
            return false;
        }
    }
}
