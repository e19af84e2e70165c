import java.util.ArrayList;
import java.util.Arrays;
import java.util.HashMap;
import java.util.List;
import java.util.Map;
import java.util.NoSuchElementException;
import java.util.regex.Matcher;
import java.util.regex.Pattern;

/**
 * The document once more, by plain enumeration and whole copies, without a thought for speed or room.
 * RandomRunsTest compares the class with it.
 */
public final class Model {
    private static final List<String> KINDS = List.of("plain", "child", "foreign", "double", "king");
    private static final List<String> NO_NAMES = List.of("town", "work", "mask", "person", "promise", "lent", "seen",
            "letter", "break", "child", "habit", "does", "size");
    private static final Map<String, Integer> ROOM = Map.of("mask", 6, "person", 6, "promise", 12, "lent", 12,
            "seen", 8, "letter", 8, "break", 8);
    private static final List<String> DATED = List.of("promise", "lent", "seen", "letter", "break");

    /** A fault of a text. */
    private static final class Fault extends RuntimeException {
        final int number;
        final int place;

        Fault(int number, int place) {
            this.number = number;
            this.place = place;
        }
    }

    private record Token(String text, int place) {
        boolean isWord() {
            return text.matches("[a-z]{1,8}");
        }

        boolean isWhole() {
            return text.matches("[0-9]{1,3}");
        }
    }

    /** A text that was read: rows of numbers for each sort of line. */
    private static final class Told {
        int days;
        final Map<String, String> names = new HashMap<>();
        final List<String> works = new ArrayList<>();
        final Map<String, List<int[]>> rows = new HashMap<>();

        Told() {
            for (String sort : ROOM.keySet()) {
                rows.put(sort, new ArrayList<>());
            }
        }

        List<int[]> of(String sort) {
            return rows.get(sort);
        }
    }

    /** Lendings as {mask, person, from, until}, breaks as {person, day}. */
    private record State(List<int[]> lent, List<int[]> breaks) {
    }

    private byte[] tape = new byte[0];
    private Told told = new Told();
    private State now = new State(List.of(), List.of());
    private final List<State> undo = new ArrayList<>();
    private final List<State> redo = new ArrayList<>();
    private final List<State> images = new ArrayList<>();
    private int trouble = 0;
    private int fault = 0;
    private int place = -1;

    // ---- reading

    private List<Token> tokens = List.of();
    private int at;

    private static List<Token> split(String text) {
        List<Token> all = new ArrayList<>();
        Matcher m = Pattern.compile("[a-z]+|[0-9]+|[^ ]", Pattern.DOTALL).matcher(text);
        while (m.find()) {
            all.add(new Token(m.group(), m.start()));
        }
        all.add(new Token("", text.length()));
        return all;
    }

    private Token look() {
        return tokens.get(at);
    }

    private Token next() {
        return tokens.get(at++);
    }

    private static void need(boolean is, int number, Token t) {
        if (!is) {
            throw new Fault(number, t.place);
        }
    }

    private Token word(String text) {
        need(look().text.equals(text), 1, look());
        return next();
    }

    private int whole(int least, int most) {
        Token t = look();
        need(t.isWhole(), 1, t);
        int n = Integer.parseInt(t.text);
        need(n >= least && n <= most, 4, t);
        at++;
        return n;
    }

    private String name() {
        Token t = look();
        need(t.isWord() && !NO_NAMES.contains(t.text), 1, t);
        return t.text;
    }

    private void newName(Told b, String sort, int number) {
        String name = name();
        need(!b.names.containsKey(name), 3, look());
        need(!sort.equals("work") || number < 5, 5, look());
        b.names.put(name, sort + number);
        at++;
    }

    private int known(Told b, String sort) {
        String what = b.names.get(name());
        need(what != null && what.startsWith(sort), 2, look());
        at++;
        return Integer.parseInt(what.substring(sort.length()));
    }

    private boolean goesOn(String text) {
        if (look().text.equals(text)) {
            at++;
            return true;
        }
        return false;
    }

    private Told read(String text) {
        Told b = new Told();
        tokens = split(text);
        at = 0;
        do {
            line(b);
        } while (goesOn(";"));
        need(look().text.isEmpty(), 1, look());
        need(b.days > 0 && !b.of("mask").isEmpty() && !b.of("person").isEmpty(), 6, look());
        return b;
    }

    private void line(Told b) {
        Token first = look();
        String sort = first.text;
        need(sort.equals("town") || sort.equals("work") || ROOM.containsKey(sort), 1, first);
        need(!sort.equals("town") || b.days == 0, 3, first);
        need(!ROOM.containsKey(sort) || b.of(sort).size() < ROOM.get(sort), 5, first);
        need(!DATED.contains(sort) || b.days > 0, 6, first);
        at++;
        switch (sort) {
            case "town" -> {
                word("days");
                b.days = whole(1, 20);
            }
            case "work" -> {
                do {
                    newName(b, "work", b.works.size());
                    b.works.add("");
                } while (goesOn(","));
            }
            case "mask" -> mask(b);
            case "person" -> person(b);
            case "promise" -> b.of(sort).add(new int[] {known(b, "mask"), known(b, "work"), after("on", 1, b.days),
                after("worth", 0, 99), after("fine", 0, 99), after("effort", 0, 99)});
            case "lent" -> lent(b);
            case "seen" -> b.of(sort).add(new int[] {known(b, "mask"), after("on", 1, b.days), after("hour", 0, 23),
                after("size", 1, 9), look().text.equals("habit") ? after("habit", 1, 4) : 0});
            case "letter" -> {
                int from = known(b, "mask");
                word("to");
                Token second = look();
                int to = known(b, "mask");
                need(from != to, 3, second);
                b.of(sort).add(new int[] {from, to, after("on", 1, b.days)});
            }
            default -> {
                int person = known(b, "person");
                word("on");
                Token day = look();
                int[] row = {person, whole(1, b.days)};
                need(b.of(sort).stream().noneMatch(r -> Arrays.equals(r, row)), 3, day);
                b.of(sort).add(row);
            }
        }
    }

    private int after(String text, int least, int most) {
        word(text);
        return whole(least, most);
    }

    private void mask(Told b) {
        newName(b, "mask", b.of("mask").size());
        int kind = KINDS.indexOf(look().text);
        need(kind >= 0, 1, look());
        at++;
        b.of("mask").add(new int[] {kind, after("size", 1, 9), after("credit", 0, 99)});
    }

    private void person(Told b) {
        newName(b, "person", b.of("person").size());
        int[] row = {after("size", 1, 9), after("honour", 0, 99), 0, 0, 0};
        row[2] = goesOn("child") ? 1 : 0;
        row[3] = goesOn("habit") ? whole(1, 4) : 0;
        if (goesOn("does")) {
            do {
                Token t = look();
                int bit = 1 << known(b, "work");
                need((row[4] & bit) == 0, 3, t);
                row[4] |= bit;
            } while (goesOn(","));
        }
        b.of("person").add(row);
    }

    private void lent(Told b) {
        int mask = known(b, "mask");
        word("to");
        int person = known(b, "person");
        int from = after("from", 1, b.days);
        word("until");
        Token last = look();
        int until = whole(from, b.days);
        boolean can = suits(b, mask, person);
        for (int[] l : b.of("lent")) {
            for (int d = from; d <= until; d++) {
                can &= d < l[2] || d > l[3] || l[0] != mask && l[1] != person;
            }
        }
        need(can, 7, last);
        b.of("lent").add(new int[] {mask, person, from, until});
    }

    // ---- what follows from a text and a state

    private static boolean suits(Told b, int mask, int person) {
        int[] m = b.of("mask").get(mask);
        int[] p = b.of("person").get(person);
        boolean near = p[0] >= m[1] - 1 && p[0] <= m[1] + 1;
        return switch (KINDS.get(m[0])) {
            case "plain" -> near;
            case "child" -> near && p[2] == 1;
            case "foreign" -> true;
            case "double" -> p[0] == m[1];
            default -> near && p[1] >= 60;
        };
    }

    private int[] lendingOf(int mask, int day) {
        for (int[] l : now.lent) {
            if (l[0] == mask && l[2] <= day && day <= l[3]) {
                return l;
            }
        }
        return null;
    }

    private int in(int mask, int day) {
        int[] l = lendingOf(mask, day);
        return l == null ? -2 : l[1];
    }

    private boolean breaksOn(int person, int day) {
        return now.breaks.stream().anyMatch(b -> b[0] == person && b[1] == day);
    }

    private boolean able(int person, int[] promise) {
        return person >= 0 && (told.of("person").get(person)[4] >> promise[1] & 1) == 1;
    }

    /** The promises of a day that are done, if masks are worn so. */
    private List<int[]> doneOn(int day, int[] worn, boolean looksAtBreaks) {
        List<int[]> done = new ArrayList<>();
        int[] left = new int[worn.length];
        for (int m = 0; m < worn.length; m++) {
            left[m] = told.of("mask").get(m)[0] == 3 ? 2 : 1;
        }
        for (int[] p : told.of("promise")) {
            int who = worn[p[0]];
            if (p[2] == day && able(who, p) && !(looksAtBreaks && breaksOn(who, day)) && left[p[0]]-- > 0) {
                done.add(p);
            }
        }
        return done;
    }

    private int[] lentOn(int day) {
        int[] worn = new int[told.of("mask").size()];
        for (int m = 0; m < worn.length; m++) {
            worn[m] = in(m, day);
        }
        return worn;
    }

    private boolean isDone(int[] p) {
        return doneOn(p[2], lentOn(p[2]), true).contains(p);
    }

    private int balance(int day, int[] worn, boolean looksAtBreaks) {
        List<int[]> done = doneOn(day, worn, looksAtBreaks);
        int sum = 0;
        for (int[] p : told.of("promise")) {
            if (p[2] == day) {
                sum += done.contains(p) ? p[3] : -p[4];
            }
        }
        return sum;
    }

    /** All ways to hand out masks that fit, the peg (-2) ahead of persons, nobody with two. */
    private void ways(int mask, int[] worn, int without, List<int[]> all) {
        if (mask == worn.length) {
            all.add(worn.clone());
            return;
        }
        worn[mask] = -2;
        ways(mask + 1, worn, without, all);
        for (int p = 0; p < told.of("person").size(); p++) {
            boolean free = p != without && suits(told, mask, p);
            for (int m = 0; m < mask; m++) {
                free &= worn[m] != p;
            }
            if (free) {
                worn[mask] = p;
                ways(mask + 1, worn, without, all);
            }
        }
    }

    private int[] best(int day, int without) {
        List<int[]> all = new ArrayList<>();
        ways(0, new int[told.of("mask").size()], without, all);
        int[] best = all.get(0);
        for (int[] w : all) {
            if (balance(day, w, false) > balance(day, best, false)) {
                best = w;
            }
        }
        return best;
    }

    private int most(int day, int without) {
        return balance(day, best(day, without), false);
    }

    private boolean resembles(int[] seen, int person) {
        int[] p = told.of("person").get(person);
        return Math.abs(p[0] - seen[3]) <= 1 && (seen[4] == 0 || seen[4] == p[3]);
    }

    private boolean twice(int day, int bits) {
        List<int[]> all = told.of("seen");
        for (int i = 0; i < all.size(); i++) {
            for (int j = i + 1; j < all.size(); j++) {
                boolean both = (bits >> i & 1) == 0 && (bits >> j & 1) == 0;
                int[] a = all.get(i);
                int[] b = all.get(j);
                if (both && a[1] == day && b[1] == day && a[0] == b[0] && a[2] == b[2]
                        && told.of("mask").get(a[0])[0] != 3) {
                    return true;
                }
            }
        }
        return false;
    }

    private boolean isWorn(int day, int[] worn, int bits) {
        List<int[]> all = told.of("seen");
        for (int m = 0; m < worn.length; m++) {
            boolean seen = false;
            for (int i = 0; i < all.size(); i++) {
                if (all.get(i)[1] == day && all.get(i)[0] == m && (bits >> i & 1) == 0) {
                    seen = true;
                    if (worn[m] < 0 || !resembles(all.get(i), worn[m])) {
                        return false;
                    }
                }
            }
            if (in(m, day) >= 0 ? worn[m] != in(m, day) : !seen && worn[m] >= 0) {
                return false;
            }
        }
        return true;
    }

    private int falseOf(int day) {
        int ofDay = 0;
        for (int i = 0; i < told.of("seen").size(); i++) {
            ofDay |= told.of("seen").get(i)[1] == day ? 1 << i : 0;
        }
        List<int[]> all = new ArrayList<>();
        ways(0, new int[told.of("mask").size()], -1, all);
        for (int count = 0; count <= 8; count++) {
            for (int bits = 0; bits < 256; bits++) {
                int chosen = bits;
                if ((bits & ~ofDay) == 0 && Integer.bitCount(bits) == count && !twice(day, bits)
                        && all.stream().anyMatch(w -> isWorn(day, w, chosen))) {
                    return bits;
                }
            }
        }
        return -2;
    }

    private List<int[]> wornOn(int day) {
        int bits = falseOf(day);
        List<int[]> all = new ArrayList<>();
        if (bits >= 0) {
            ways(0, new int[told.of("mask").size()], -1, all);
            all.removeIf(w -> !isWorn(day, w, bits));
        }
        return all;
    }

    private List<int[]> pairs(int mask, int other) {
        List<int[]> pairs = new ArrayList<>();
        List<List<int[]>> days = new ArrayList<>();
        for (int[] l : told.of("letter")) {
            if (l[0] == mask && l[1] == other || l[0] == other && l[1] == mask) {
                days.add(wornOn(l[2]));
            }
        }
        for (int p = 0; p < told.of("person").size() && !days.isEmpty(); p++) {
            for (int q = 0; q < told.of("person").size(); q++) {
                int a = p;
                int b = q;
                if (p != q && days.stream().allMatch(d -> d.stream().anyMatch(w -> w[mask] == a && w[other] == b))) {
                    pairs.add(new int[] {p, q});
                }
            }
        }
        return pairs;
    }

    // ---- the face

    private int no(int number, int answer) {
        trouble = number;
        return answer;
    }

    private boolean no(int number) {
        trouble = number;
        return false;
    }

    private boolean noMask(int m) {
        trouble = 0;
        return m < 0 || m >= told.of("mask").size();
    }

    private boolean noPerson(int p) {
        trouble = 0;
        return p < 0 || p >= told.of("person").size();
    }

    private boolean noBook() {
        trouble = 0;
        return told.days == 0;
    }

    private boolean noDay(int d) {
        return d < 1 || d > told.days;
    }

    public int feed(int a, int b, int c, int d, int e) {
        if (tape.length > 880) {
            return -1;
        }
        int from = tape.length;
        tape = Arrays.copyOf(tape, from + 20);
        java.nio.ByteBuffer.wrap(tape, from, 20).putInt(a).putInt(b).putInt(c).putInt(d).putInt(e);
        return tape.length;
    }

    public int book(int n) {
        if (n < 0 || n > tape.length) {
            return no(2, -1);
        }
        String text = new String(tape, 0, n, java.nio.charset.StandardCharsets.ISO_8859_1);
        tape = new byte[0];
        try {
            told = read(text);
        } catch (Fault f) {
            fault = f.number;
            place = f.place;
            return no(4, -1);
        }
        fault = 0;
        undo.clear();
        redo.clear();
        images.clear();
        now = new State(sorted(told.of("lent")), told.of("break"));
        return no(0, told.of("mask").size());
    }

    private static List<int[]> sorted(List<int[]> lent) {
        List<int[]> all = new ArrayList<>(lent);
        all.sort((a, b) -> a[0] != b[0] ? a[0] - b[0] : a[2] - b[2]);
        return all;
    }

    public int fault() {
        return fault;
    }

    public int where() {
        return trouble == 4 ? place : -1;
    }

    public int fits(int mask, int person) {
        if (noMask(mask) || noPerson(person)) {
            return no(1, -1);
        }
        return suits(told, mask, person) ? 1 : 0;
    }

    public int wearer(int mask, int day) {
        return noMask(mask) ? no(1, -1) : noDay(day) ? no(2, -1) : in(mask, day);
    }

    public int worn(int person, int day) {
        if (noPerson(person)) {
            return no(1, -1);
        }
        if (noDay(day)) {
            return no(2, -1);
        }
        int[] worn = lentOn(day);
        for (int m = 0; m < worn.length; m++) {
            if (worn[m] == person) {
                return m;
            }
        }
        return -2;
    }

    private boolean noPromise(int i) {
        trouble = 0;
        return i < 0 || i >= told.of("promise").size();
    }

    public int owes(int promise) {
        if (noPromise(promise)) {
            return no(1, -1);
        }
        int[] p = told.of("promise").get(promise);
        return in(p[0], p[2]);
    }

    public int done(int promise) {
        return noPromise(promise) ? no(1, -1) : isDone(told.of("promise").get(promise)) ? 1 : 0;
    }

    public int credit(int mask, int day) {
        if (noMask(mask)) {
            return no(1, -1);
        }
        if (day != 0 && noDay(day)) {
            return no(2, -1);
        }
        int credit = told.of("mask").get(mask)[2];
        for (int d = 1; d <= day; d++) {
            for (int[] p : told.of("promise")) {
                if (p[0] == mask && p[2] == d) {
                    credit = isDone(p) ? Math.min(99, credit + p[3]) : Math.max(0, credit - p[4]);
                }
            }
        }
        return credit;
    }

    private int fines(int person, int day) {
        int sum = 0;
        for (int[] p : told.of("promise")) {
            sum += p[2] <= day && in(p[0], p[2]) == person && !isDone(p) ? p[4] : 0;
        }
        return sum;
    }

    public int debt(int person, int day) {
        return noPerson(person) ? no(1, -1) : day != 0 && noDay(day) ? no(2, -1) : fines(person, day);
    }

    public int gain(int person, int day) {
        if (noPerson(person)) {
            return no(1, -10000);
        }
        if (day != 0 && noDay(day)) {
            return no(2, -10000);
        }
        int sum = -fines(person, day);
        for (int[] p : told.of("promise")) {
            sum += p[2] <= day && in(p[0], p[2]) == person && isDone(p) ? p[3] - p[5] : 0;
        }
        return sum;
    }

    public int guild() {
        return noBook() ? no(1, -1) : fines(-2, 20);
    }

    public int breaks(int person, int day) {
        return noPerson(person) ? no(1, -1) : noDay(day) ? no(2, -1) : breaksOn(person, day) ? 1 : 0;
    }

    public int value(int day) {
        return noBook() ? no(1, -10000) : noDay(day) ? no(2, -10000) : most(day, -1);
    }

    public int plan(int day, int mask) {
        return noMask(mask) ? no(1, -1) : noDay(day) ? no(2, -1) : best(day, -1)[mask];
    }

    public int needed(int day, int person) {
        return noPerson(person) ? no(1, -1) : noDay(day) ? no(2, -1) : most(day, -1) - most(day, person);
    }

    public int worth() {
        if (noBook()) {
            return no(1, -100000);
        }
        int sum = 0;
        for (int d = 1; d <= told.days; d++) {
            int day = d;
            boolean busy = told.of("promise").stream().anyMatch(p -> p[2] == day);
            sum += busy ? most(d, -1) : 0;
        }
        return sum;
    }

    public int real(int day) {
        return noBook() ? no(1, -10000) : noDay(day) ? no(2, -10000) : balance(day, lentOn(day), true);
    }

    public int terms() {
        if (noBook()) {
            return no(1, -1);
        }
        for (int deposit = 0; deposit <= 99; deposit++) {
            boolean does = true;
            for (int[] p : told.of("promise")) {
                int[] l = lendingOf(p[0], p[2]);
                if (l != null && l[3] == p[2] && able(l[1], p)) {
                    does &= p[5] <= Math.min(deposit, p[4]);
                }
            }
            if (does) {
                return deposit;
            }
        }
        return -2;
    }

    public int ask(int mask, int person, int from, int until) {
        if (noMask(mask) || noPerson(person)) {
            return no(1, -1);
        }
        if (noDay(from) || noDay(until) || until < from) {
            return no(2, -1);
        }
        if (!suits(told, mask, person)) {
            return no(5, -1);
        }
        int sum = 0;
        for (int[] p : told.of("promise")) {
            sum += p[0] == mask && p[2] >= from && p[2] <= until ? p[4] : 0;
        }
        return (int) Math.ceil(sum * (100 - told.of("person").get(person)[1]) / 100.0);
    }

    public int wearers(int day) {
        return noBook() ? no(1, -1) : noDay(day) ? no(2, -1) : wornOn(day).size();
    }

    public int odds(int day, int mask, int person, boolean lower) {
        if (noMask(mask) || noPerson(person)) {
            return no(1, -1);
        }
        if (noDay(day)) {
            return no(2, -1);
        }
        List<int[]> all = wornOn(day);
        if (all.isEmpty()) {
            return no(6, -1);
        }
        int some = (int) all.stream().filter(w -> w[mask] == person).count();
        int by = java.math.BigInteger.valueOf(some).gcd(java.math.BigInteger.valueOf(all.size())).intValue();
        return (lower ? all.size() : some) / by;
    }

    public int may(int day, int mask) {
        if (noMask(mask)) {
            return no(1, -1);
        }
        if (noDay(day)) {
            return no(2, -1);
        }
        int bits = 0;
        for (int[] w : wornOn(day)) {
            bits |= w[mask] < 0 ? 0 : 1 << w[mask];
        }
        return bits;
    }

    public int untrue(int day) {
        return noBook() ? no(1, -1) : noDay(day) ? no(2, -1) : falseOf(day);
    }

    public int agrees(int sighting, int person) {
        if (noPerson(person) || sighting < 0 || sighting >= told.of("seen").size()) {
            return no(1, -1);
        }
        int[] seen = told.of("seen").get(sighting);
        return suits(told, seen[0], person) && resembles(seen, person) ? 1 : 0;
    }

    public int lovers(int mask, int other) {
        return noMask(mask) || noMask(other) || mask == other ? no(1, -1) : pairs(mask, other).size();
    }

    public int lover(int mask, int other, int i, boolean second) {
        if (noMask(mask) || noMask(other) || mask == other || i < 0 || i >= pairs(mask, other).size()) {
            return no(1, -1);
        }
        return pairs(mask, other).get(i)[second ? 1 : 0];
    }

    private boolean act(List<int[]> lent, List<int[]> breaks) {
        undo.add(now);
        if (undo.size() > 12) {
            undo.remove(0);
        }
        redo.clear();
        now = new State(sorted(lent), breaks);
        return true;
    }

    private boolean free(int mask, int person, int from, int until) {
        for (int d = from; d <= until; d++) {
            for (int[] l : now.lent) {
                if (l[2] <= d && d <= l[3] && (l[0] == mask || l[1] == person)) {
                    return false;
                }
            }
        }
        return true;
    }

    public boolean lend(int mask, int person, int from, int until) {
        if (noMask(mask) || noPerson(person)) {
            return no(1);
        }
        if (noDay(from) || noDay(until) || until < from) {
            return no(2);
        }
        if (now.lent.size() == 20) {
            return no(3);
        }
        if (!suits(told, mask, person) || !free(mask, person, from, until)) {
            return no(5);
        }
        List<int[]> lent = new ArrayList<>(now.lent);
        lent.add(new int[] {mask, person, from, until});
        return act(lent, now.breaks);
    }

    public boolean give(int mask, int day) {
        if (noMask(mask)) {
            return no(1);
        }
        if (noDay(day)) {
            return no(2);
        }
        int[] l = lendingOf(mask, day);
        if (l == null) {
            return no(6);
        }
        List<int[]> lent = new ArrayList<>(now.lent);
        lent.remove(l);
        if (l[2] < day) {
            lent.add(new int[] {mask, l[1], l[2], day - 1});
        }
        return act(lent, now.breaks);
    }

    public boolean pass(int mask, int day, int person) {
        if (noMask(mask) || noPerson(person)) {
            return no(1);
        }
        if (noDay(day)) {
            return no(2);
        }
        int[] l = lendingOf(mask, day);
        if (l == null) {
            return no(6);
        }
        if (now.lent.size() == 20 && l[2] < day) {
            return no(3);
        }
        if (l[1] == person || !suits(told, mask, person) || !free(-1, person, day, l[3])) {
            return no(5);
        }
        List<int[]> lent = new ArrayList<>(now.lent);
        lent.remove(l);
        if (l[2] < day) {
            lent.add(new int[] {mask, l[1], l[2], day - 1});
        }
        lent.add(new int[] {mask, person, day, l[3]});
        return act(lent, now.breaks);
    }

    public boolean breaking(int person, int day, boolean is) {
        if (noPerson(person)) {
            return no(1);
        }
        if (noDay(day)) {
            return no(2);
        }
        if (breaksOn(person, day) == is) {
            return no(5);
        }
        List<int[]> breaks = new ArrayList<>(now.breaks);
        if (is) {
            breaks.add(new int[] {person, day});
        } else {
            breaks.removeIf(b -> b[0] == person && b[1] == day);
        }
        return act(now.lent, breaks);
    }

    private boolean move(List<State> from, List<State> to) {
        trouble = from.isEmpty() ? 6 : 0;
        if (trouble == 0) {
            to.add(now);
            now = from.remove(from.size() - 1);
        }
        return trouble == 0;
    }

    public boolean undo() {
        return move(undo, redo);
    }

    public boolean redo() {
        return move(redo, undo);
    }

    public int image() {
        if (noBook()) {
            return no(1, -1);
        }
        if (images.size() == 3) {
            return no(3, -1);
        }
        images.add(now);
        return images.size() - 1;
    }

    public boolean back(int image) {
        if (image < 0 || image >= images.size()) {
            return no(1);
        }
        trouble = 0;
        now = images.get(image);
        undo.clear();
        redo.clear();
        return true;
    }

    private int cell(List<int[]> rows, int i, int what, int most) {
        trouble = i < 0 || i >= rows.size() || what < 0 || what > most ? 1 : 0;
        return trouble == 0 ? rows.get(i)[what] : -1;
    }

    public int lending(int i, int what) {
        return cell(now.lent, i, what, 3);
    }

    public int mask(int m, int what) {
        return cell(told.of("mask"), m, what, 1);
    }

    public int person(int p, int what) {
        return cell(told.of("person"), p, what, 4);
    }

    public int led(int day, int i) {
        List<Integer> pegs = new ArrayList<>();
        for (int m = 0; m < told.of("mask").size() && !noDay(day); m++) {
            if (in(m, day) < 0) {
                pegs.add(m);
            }
        }
        if (i < 0 || i >= pegs.size()) {
            throw new NoSuchElementException();
        }
        return pegs.get(i);
    }

    public int size(int what) {
        int[] all = {told.of("mask").size(), told.of("person").size(), told.works.size(), told.of("promise").size(),
            now.lent.size(), told.of("seen").size(), told.of("letter").size(), told.days, undo.size(), redo.size(),
            images.size(), tape.length};
        return what < 0 || what >= all.length ? -1 : all[what];
    }

    public int trouble() {
        return trouble;
    }
}
