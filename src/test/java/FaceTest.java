import java.lang.reflect.Field;
import java.lang.reflect.Method;
import java.lang.reflect.Modifier;
import java.util.Arrays;
import java.util.Set;
import java.util.TreeSet;

/** The public face, and no member beside it that anybody else could see (rule 1 of LANGUAGE.md). */
public final class FaceTest {
    private static final String FACE = "feed(int,int,int,int,int)int book(int)int fault()int where()int"
            + " fits(int,int)int wearer(int,int)int worn(int,int)int owes(int)int done(int)int credit(int,int)int"
            + " debt(int,int)int gain(int,int)int guild()int breaks(int,int)int value(int)int plan(int,int)int"
            + " needed(int,int)int worth()int real(int)int terms()int ask(int,int,int,int)int wearers(int)int"
            + " odds(int,int,int,boolean)int may(int,int)int untrue(int)int agrees(int,int)int lovers(int,int)int"
            + " lover(int,int,int,boolean)int lend(int,int,int,int)boolean give(int,int)boolean"
            + " pass(int,int,int)boolean breaking(int,int,boolean)boolean undo()boolean redo()boolean image()int"
            + " back(int)boolean lending(int,int)int mask(int,int)int person(int,int)int led(int,int)int"
            + " size(int)int trouble()int";

    public static void main(String[] args) {
        Set<String> open = new TreeSet<>();
        Set<String> openNames = new TreeSet<>();
        Set<String> hiddenNames = new TreeSet<>();
        for (Method m : LentMasks.class.getDeclaredMethods()) {
            if (Modifier.isPrivate(m.getModifiers())) {
                hiddenNames.add(m.getName());
            } else {
                open.add(described(m));
                openNames.add(m.getName());
                Check.yes(m + " is public and of an object",
                        Modifier.isPublic(m.getModifiers()) && !Modifier.isStatic(m.getModifiers()));
            }
        }
        Set<String> due = new TreeSet<>(Arrays.asList(FACE.split(" ")));
        if (!open.equals(due)) {
            System.out.println("face: " + open + "\ndue:  " + due);
        }
        Check.yes("the methods are those of the document", open.equals(due));
        hiddenNames.retainAll(openNames);
        Check.yes("no private method has the name of a public one: " + hiddenNames, hiddenNames.isEmpty());
        for (Field f : LentMasks.class.getDeclaredFields()) {
            Check.same(f.getName() + " is private, but for NONE", Modifier.isPrivate(f.getModifiers()) ? 0 : 1,
                    f.getName().equals("NONE") ? 1 : 0);
        }
        Check.same("NONE", LentMasks.NONE, -1);
        Check.yes("final", Modifier.isFinal(LentMasks.class.getModifiers()));
        Check.same("one constructor", LentMasks.class.getDeclaredConstructors().length, 1);
        Check.same("a public one", LentMasks.class.getConstructors().length, 1);
        Check.end();
    }

    private static String described(Method m) {
        StringBuilder s = new StringBuilder(m.getName()).append('(');
        for (Class<?> c : m.getParameterTypes()) {
            s.append(s.charAt(s.length() - 1) == '(' ? "" : ",").append(c.getName());
        }
        return s.append(')').append(m.getReturnType().getName()).toString();
    }
}
