import java.util.ArrayList;
import java.util.List;

/**
 * Of two objects made alike one gets a call that is to change nothing: all that the next calls tell must be the same
 * of both, but for status(). What is looked at by calls that change the object is looked at in parts, each of new
 * objects, so that none gets more than 512 calls.
 */
final class Twins {
    /** A call of the object. */
    interface Call {
        int on(ClueLeave x);
    }

    /** From nothing at all to all there is room for. */
    enum State {
        NEW, BARE, MID, PACKED;

        ClueLeave made() {
            switch (this) {
                case BARE: return Due.of("c2,0;");
                case MID: return mid();
                case PACKED: return packed();
                default: return new ClueLeave();
            }
        }
    }

    /** Instead of a number: status() is what it was ahead of the call. */
    private static final int STAYS = -1;
    private static final int PARTS = 7;

    private Twins() {
    }

    static void refused(String name, Call call, int due, State... states) {
        same(name, call, due, STAYS, states);
    }

    static void found(String name, Call call, int due, State... states) {
        same(name, call, due, -1000010 - due, states);
    }

    static void told(String name, Call call, int due, State... states) {
        same(name, call, due, STAYS, states);
    }

    static void toldOfRow(String name, Call call, int due, State... states) {
        same(name, call, due, 0, states);
    }

    private static void same(String name, Call call, int due, int status, State... states) {
        for (State state : states) {
            for (int part = 0; part < PARTS; part++) {
                ClueLeave one = state.made();
                ClueLeave other = state.made();
                int answer = call.on(one);
                if (part == 0) {
                    Due.due(name + ", " + state, answer, due);
                    Due.due(name + ", " + state + ", status()", one.status(),
                        status == STAYS ? other.status() : status);
                }
                Due.due(name + ", " + state + ": the first look that differs in part " + part,
                    difference(look(one, part), look(other, part)), -1);
            }
        }
    }

    /** Whether all that is told of both is the same, but for status(). */
    static void alike(String name, java.util.function.Supplier<ClueLeave> one,
            java.util.function.Supplier<ClueLeave> other) {
        for (int part = 0; part < PARTS; part++) {
            Due.due(name + ": the first look that differs in part " + part,
                difference(look(one.get(), part), look(other.get(), part)), -1);
        }
    }

    private static int difference(List<Integer> a, List<Integer> b) {
        for (int i = 0; i < Math.min(a.size(), b.size()); i++) {
            if (!a.get(i).equals(b.get(i))) {
                return i;
            }
        }
        return a.size() == b.size() ? -1 : Math.min(a.size(), b.size());
    }

    private static List<Integer> look(ClueLeave x, int part) {
        List<Integer> seen = new ArrayList<>();
        switch (part) {
            case 0: plain(x, seen); break;
            case 1: acts(x, 0, seen); break;
            case 2: acts(x, 2, seen); break;
            case 3: rows(x, 0, seen); break;
            case 4: rows(x, 4, seen); break;
            case 5:
                seen.add(x.city());
                plain(x, seen);
                break;
            default:
                for (int k = 0; k < 2; k++) {
                    seen.add(x.restore(k));
                    plain(x, seen);
                }
        }
        return seen;
    }

    private static void plain(ClueLeave x, List<Integer> seen) {
        for (int what = 0; what < 8; what++) {
            seen.add(x.count(what));
        }
        seen.add(x.fault());
        for (int c = 0; c < 6; c++) {
            for (int what = 0; what < 6; what++) {
                seen.add(x.clue(c, what));
            }
            seen.add(x.kind(c));
        }
        for (int i = -1; i <= 16; i++) {
            seen.add(x.trace(i));
        }
        for (int d = 0; d < 3; d++) {
            seen.add(x.ahead(d, 0));
            seen.add(x.ahead(d, 1));
        }
    }

    private static void acts(ClueLeave x, int what, List<Integer> seen) {
        for (int i = 0; i < 25; i++) {
            seen.add(x.undo());
            seen.add(x.count(3));
            seen.add(x.count(5));
            for (int c = 0; c < 6; c++) {
                seen.add(x.clue(c, what));
            }
        }
    }

    /** Lane, size and items of four rows. */
    private static void rows(ClueLeave x, int from, List<Integer> seen) {
        x.city();
        seen.add(Due.read(x, Due.READER));
        for (int r = from; r < from + 4; r++) {
            for (int i = 0; i < 40; i++) {
                seen.add(x.bribes(r, i, 1));
            }
            seen.add(x.set(r, 0, 70000));
            seen.add(x.drop(r));
        }
    }

    /** Some of all there is: status() is 4, fault() 1, 7 acts, day 3, one image, four rows, a trace of six, a text. */
    private static ClueLeave mid() {
        ClueLeave x = Due.of("x");
        Due.read(x, Due.SIX);
        x.image(0);
        x.bribe(2, 1);
        x.days(3);
        x.learn(1, 5);
        x.shift(5, 0);
        x.learn(0, 7);
        x.row(0, 0, 6);
        for (int i = 0; i < 6; i++) {
            x.set(0, i, 1 << i);
        }
        x.row(1, 1, 40);
        x.set(1, 0, 1);
        x.set(1, 39, 32);
        x.row(2, 2, 0);
        x.row(4, 0, 3);
        x.set(4, 0, 4);
        x.set(4, 1, 2);
        x.set(4, 2, 1);
        x.ask(1, 0);
        Due.feed(x, "c3,1;t1,2,0;");
        x.row(0, 0, -1);
        return x;
    }

    /** All there is room for: day 999, 24 acts, 8 rows of 40 items, both images, a full tape; status() is 3. */
    private static ClueLeave packed() {
        ClueLeave x = Due.of(Due.SIX);
        for (int r = 0; r < 8; r++) {
            x.row(r, r % 3, 40);
            x.set(r, 39, 1 << r % 6);
        }
        x.image(0);
        for (int i = 0; i < 41; i++) {
            x.days(24);
        }
        x.days(15);
        x.image(1);
        x.ask(1, 0);
        Due.feed(x, "c6,6;t63,04,03;g63,04,03;v63,04,03;s63,04,03;a63,04,03;t63,04,03;" + ";".repeat(35));
        x.as(0, 5);
        return x;
    }
}
