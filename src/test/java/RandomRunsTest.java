import java.lang.reflect.InvocationTargetException;
import java.lang.reflect.Method;
import java.util.ArrayList;
import java.util.Arrays;
import java.util.Comparator;
import java.util.List;
import java.util.NoSuchElementException;
import java.util.Random;

/** Drives the class and the model by the same calls, from fixed seeds, and compares all answers. */
public final class RandomRunsTest {
    private static final int RUNS = 400;
    private static final int CALLS = 160;
    private static final int FAULTY_TEXTS = 40_000;
    private static final int DRESSED_TEXTS = 10_000;
    private static final int WILD = 40;

    private static final List<Method> METHODS = methods();

    public static void main(String[] args) throws Exception {
        for (int run = 0; run < RUNS; run++) {
            drive(new Random(1000 + run), run);
        }
        faultyTexts(new Random(77));
        dressedTexts(new Random(78));
        Check.end();
    }

    private static List<Method> methods() {
        List<Method> all = new ArrayList<>(Arrays.asList(LentMasks.class.getDeclaredMethods()));
        all.removeIf(m -> !java.lang.reflect.Modifier.isPublic(m.getModifiers()) || m.getName().equals("feed"));
        all.sort(Comparator.comparing(Method::getName));
        for (String act : new String[] {"lend", "pass", "give", "breaking", "lend", "lend", "pass", "undo"}) {
            all.addAll(all.stream().filter(m -> m.getName().equals(act)).limit(1).toList());
        }
        return all;
    }

    private static void drive(Random random, int run) throws Exception {
        LentMasks x = new LentMasks();
        Model model = new Model();
        StringBuilder calls = new StringBuilder();
        if (run % 20 != 0) {
            tell(x, model, Texts.sound(random), calls);
        }
        for (int i = 0; i < CALLS; i++) {
            if (random.nextInt(120) == 0) {
                String text = Texts.sound(random);
                tell(x, model, random.nextInt(3) == 0 ? Texts.spoilt(text, random) : text, calls);
            }
            Method m = METHODS.get(random.nextInt(METHODS.size()));
            if (m.getName().equals("book") && random.nextInt(10) != 0) {
                continue;
            }
            Object[] given = arguments(m, random);
            calls.append(m.getName()).append(Arrays.toString(given)).append(' ');
            String got = answer(x, m, given);
            String due = answer(model, Model.class.getMethod(m.getName(), m.getParameterTypes()), given);
            compare(calls, got + state(x), due + state(model));
        }
    }

    private static void compare(StringBuilder calls, String got, String due) {
        if (!got.equals(due)) {
            System.out.println(calls + "\n  got " + got + "\n  due " + due);
        }
        Check.yes("as the model answers", got.equals(due));
    }

    private static Object[] arguments(Method m, Random random) {
        Object[] given = new Object[m.getParameterCount()];
        for (int i = 0; i < given.length; i++) {
            if (m.getParameterTypes()[i] == boolean.class) {
                given[i] = random.nextBoolean();
            } else if (random.nextInt(WILD) == 0) {
                given[i] = random.nextInt(3) == 0 ? random.nextInt() : random.nextInt(40) - 10;
            } else {
                given[i] = random.nextInt(random.nextInt(3) == 0 ? 12 : 5);
            }
        }
        return given;
    }

    private static String answer(Object of, Method m, Object[] given) throws IllegalAccessException {
        try {
            return String.valueOf(m.invoke(of, given));
        } catch (InvocationTargetException e) {
            // Anything else is a fault of the class, and must not look like an answer.
            if (e.getCause() instanceof NoSuchElementException) {
                return "none";
            }
            throw new IllegalStateException(m + Arrays.toString(given), e.getCause());
        }
    }

    private static String state(LentMasks x) {
        StringBuilder s = new StringBuilder(" t" + x.trouble() + " f" + x.fault() + " w" + x.where() + " s");
        for (int what = 0; what < 12; what++) {
            s.append(x.size(what)).append(' ');
        }
        return s.toString();
    }

    private static String state(Model x) {
        StringBuilder s = new StringBuilder(" t" + x.trouble() + " f" + x.fault() + " w" + x.where() + " s");
        for (int what = 0; what < 12; what++) {
            s.append(x.size(what)).append(' ');
        }
        return s.toString();
    }

    private static void tell(LentMasks x, Model model, String text, StringBuilder calls) {
        byte[] bytes = Town.bytes(text);
        for (int from = 0; from < bytes.length; from += 20) {
            int[] n = new int[5];
            for (int i = 0; i < 20; i++) {
                n[i / 4] = n[i / 4] << 8 | (from + i < bytes.length ? bytes[from + i] & 255 : ' ');
            }
            Check.same("feed", x.feed(n[0], n[1], n[2], n[3], n[4]), model.feed(n[0], n[1], n[2], n[3], n[4]));
        }
        calls.append("\"").append(text).append("\" ");
        compare(calls, x.book(bytes.length) + state(x), model.book(bytes.length) + state(model));
    }

    private static void faultyTexts(Random random) {
        int[] met = new int[8];
        LentMasks x = new LentMasks();
        Model model = new Model();
        for (int i = 0; i < FAULTY_TEXTS; i++) {
            tell(x, model, Texts.spoilt(Texts.sound(random), random), new StringBuilder());
            met[x.fault()]++;
        }
        System.out.println("faults met: " + Arrays.toString(met));
        for (int fault = 0; fault < met.length; fault++) {
            Check.yes("fault " + fault + " was met", met[fault] > 0);
        }
    }

    private static void dressedTexts(Random random) {
        LentMasks x = new LentMasks();
        Model model = new Model();
        int sound = 0;
        for (int i = 0; i < DRESSED_TEXTS; i++) {
            String text = Texts.dressed(Texts.sound(random), random);
            tell(x, model, random.nextInt(3) == 0 ? Texts.spoilt(text, random) : text, new StringBuilder());
            sound += x.fault() == 0 ? 1 : 0;
        }
        System.out.println("dressed texts that are sound: " + sound + " of " + DRESSED_TEXTS);
        Check.yes("most dressed texts are sound", sound > DRESSED_TEXTS / 2);
    }
}
