import java.lang.reflect.Constructor;
import java.lang.reflect.Field;
import java.lang.reflect.Member;
import java.lang.reflect.Method;
import java.lang.reflect.Modifier;
import java.util.Arrays;
import java.util.Set;
import java.util.TreeSet;

/** The class has the document's face, and nothing else that can be seen from outside. */
public final class FaceTest {
    /** Each method, and how many ints it takes. */
    private static final String METHODS = "row3 set3 copy5 drop1 feed1 city0 fault0 days1 bribe2 learn2 shift2 undo0 "
        + "clue2 ahead2 first1 rota2 when2 enough2 clash2 bribes3 fits5 strike3 drawn3 image1 restore1 kind1 as2 ask2 "
        + "trace1 count1 status0";

    public static void main(String[] args) {
        Class<?> c = ClueLeave.class;
        Due.due("public and final", c.getModifiers() & (Modifier.PUBLIC | Modifier.FINAL),
            Modifier.PUBLIC | Modifier.FINAL);
        Due.due("extends nothing", c.getSuperclass() == Object.class ? 1 : 0, 1);
        Constructor<?>[] made = c.getDeclaredConstructors();
        Due.due("constructors", made.length, 1);
        Due.due("public constructor", made[0].getModifiers(), Modifier.PUBLIC);
        Due.due("of nothing", made[0].getParameterCount(), 0);
        same("methods", methods(c), new TreeSet<>(Arrays.asList(METHODS.split(" "))));
        same("fields", fields(c), new TreeSet<>(Arrays.asList("NONE", "BAD", "STATE", "FULL")));
        noneHiddenBears(c, METHODS.replaceAll("[0-9]", "").split(" "));
        Due.end("FaceTest");
    }

    private static void noneHiddenBears(Class<?> c, String[] names) {
        for (Method m : c.getDeclaredMethods()) {
            if (!Modifier.isPublic(m.getModifiers())) {
                Due.due("a public name: " + m, Arrays.asList(names).contains(m.getName()) ? 1 : 0, 0);
            }
        }
        for (Class<?> inner : c.getDeclaredClasses()) {
            Due.due("static: " + inner, Modifier.isStatic(inner.getModifiers()) ? 1 : 0, 1);
            noneHiddenBears(inner, names);
        }
    }

    private static boolean isHidden(Member m) {
        return Modifier.isPrivate(m.getModifiers());
    }

    private static Set<String> methods(Class<?> c) {
        Set<String> found = new TreeSet<>();
        for (Method m : c.getDeclaredMethods()) {
            if (!isHidden(m)) {
                boolean ints = m.getReturnType() == int.class && m.getModifiers() == Modifier.PUBLIC
                    && Arrays.stream(m.getParameterTypes()).allMatch(t -> t == int.class);
                found.add(ints ? m.getName() + m.getParameterCount() : m.toString());
            }
        }
        return found;
    }

    private static Set<String> fields(Class<?> c) {
        Set<String> found = new TreeSet<>();
        for (Field f : c.getDeclaredFields()) {
            if (!isHidden(f)) {
                boolean constant = f.getType() == int.class
                    && f.getModifiers() == (Modifier.PUBLIC | Modifier.STATIC | Modifier.FINAL);
                found.add(constant ? f.getName() : f.toString());
            }
        }
        return found;
    }

    private static void same(String what, Set<String> got, Set<String> want) {
        if (!got.equals(want)) {
            System.out.println(what + ": " + got + ", due are " + want);
        }
        Due.due(what, got.equals(want) ? 1 : 0, 1);
    }
}
