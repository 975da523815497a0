import java.lang.reflect.InvocationTargetException;
import java.lang.reflect.Method;
import java.lang.reflect.Modifier;
import java.util.ArrayList;
import java.util.Comparator;
import java.util.List;

/** Extreme arguments in all states: nothing throws, and what is refused or found changes nothing but status(). */
public final class EdgesTest {
    private static final int[] VALUES = {Integer.MIN_VALUE, Integer.MIN_VALUE + 1, -1000000, -2, -1, 0, 1, 2, 3, 5, 6,
        7, 8, 13, 14, 15, 16, 17, 24, 25, 39, 40, 41, 60, 61, 63, 64, 99, 100, 255, 256, 999999, 1000000,
        Integer.MAX_VALUE - 1, Integer.MAX_VALUE};

    public static void main(String[] args) throws IllegalAccessException {
        List<Method> methods = new ArrayList<>();
        for (Method m : ClueLeave.class.getDeclaredMethods()) {
            if (Modifier.isPublic(m.getModifiers())) {
                methods.add(m);
            }
        }
        methods.sort(Comparator.comparing(Method::getName));
        for (int state = 0; state < 4; state++) {
            for (Method m : methods) {
                tryAll(m, state);
            }
        }
        Due.end("EdgesTest");
    }

    private static ClueLeave inState(int state) {
        ClueLeave x = new ClueLeave();
        if (state == 1) {
            Due.read(x, "c2,0;");
        } else if (state > 1) {
            Due.read(x, Due.SIX);
            x.row(0, 0, 40);
            x.row(1, 2, 0);
            x.row(7, 2, 17);
            x.image(0);
            x.bribe(2, 1);
            x.days(24);
            x.learn(5, 31);
        }
        if (state == 3) {
            for (int i = 0; i < 40; i++) {
                x.days(24);
            }
            x.days(15);
            for (int i = 0; i < 100; i++) {
                x.feed('9');
            }
        }
        return x;
    }

    /** With more than two arguments all pairs stand beside each other at some time, not all rows of them. */
    private static void tryAll(Method m, int state) throws IllegalAccessException {
        int n = m.getParameterCount();
        ClueLeave x = inState(state);
        long before = look(x);
        int calls = n == 0 ? 1 : n == 1 ? VALUES.length : n == 2 ? VALUES.length * VALUES.length : 4000;
        long draw = 1;
        for (int i = 0; i < calls; i++) {
            Object[] args = new Object[n];
            for (int k = 0; k < n; k++) {
                draw = draw * 6364136223846793005L + 1442695040888963407L;
                int at = n > 2 ? (int) ((draw >>> 33) % VALUES.length)
                    : k == 0 ? i % VALUES.length : i / VALUES.length;
                args[k] = VALUES[at];
            }
            int answer = call(m, x, args, state);
            boolean mayChange = answer > -1000000 || m.getName().equals("city");
            if (mayChange) {
                x = inState(state);
            } else if (look(x) != before) {
                Due.due(m.getName() + List.of(args) + " in state " + state + " changed what it refused", 1, 0);
                x = inState(state);
            }
        }
        Due.due(m.getName() + " in state " + state, look(inState(state)), before);
    }

    private static int call(Method m, ClueLeave x, Object[] args, int state) throws IllegalAccessException {
        try {
            return (Integer) m.invoke(x, args);
        } catch (InvocationTargetException e) {
            Due.due(m.getName() + List.of(args) + " in state " + state + " threw " + e.getCause(), 1, 0);
            return 0;
        }
    }

    /** All that can be seen of the state without a change of it, but for status(). */
    private static long look(ClueLeave x) {
        long sum = x.fault();
        for (int what = 0; what < 8; what++) {
            sum = sum * 31 + x.count(what);
        }
        for (int c = 0; c < 6; c++) {
            for (int what = 0; what < 6; what++) {
                sum = sum * 31 + x.clue(c, what);
            }
            sum = sum * 31 + x.kind(c);
        }
        for (int i = 0; i < 16; i++) {
            sum = sum * 31 + x.trace(i);
        }
        return sum;
    }
}
