import java.math.BigInteger;
import java.util.ArrayDeque;
import java.util.ArrayList;
import java.util.Arrays;
import java.util.Deque;
import java.util.List;

/**
 * The document said once more, in another way: KINDS are classes, acts are undone by whole cities that were kept, the
 * text is cut into tokens first, and what is foretold is tried out in full. It is slow, and may use all of Java.
 */
final class Model {
    private static final int NONE = -1000000, BAD = -1000001, STATE = -1000002, FULL = -1000003;

    private interface Sized {
        default int size(Model m) {
            m.begins(10);
            return ((Clue) this).tells;
        }
    }

    private interface Marked {
        default int mark(Model m) {
            m.begins(20);
            return ((Clue) this).number;
        }
    }

    private abstract static class Clue implements Sized, Marked {
        int number, tells, every, off;
        boolean bribed;

        boolean works(Town t, int day) {
            return day % every != off;
        }

        int leaves(Town t) {
            return bribed ? t.all() : honest(t);
        }

        abstract int honest(Town t);

        static Clue of(int kind, Clue like) {
            Clue c;
            if (kind == 1) {
                c = new Thread();
            } else if (kind == 2) {
                c = new Glove();
            } else if (kind == 3) {
                c = new Voice();
            } else if (kind == 4) {
                c = new Stain();
            } else {
                c = new Alibi();
            }
            if (like != null) {
                c.number = like.number;
                c.tells = like.tells;
                c.every = like.every;
                c.off = like.off;
                c.bribed = like.bribed;
            }
            return c;
        }

        int kind() {
            return this instanceof Glove ? 2 : this instanceof Voice ? 3 : this instanceof Thread ? 1
                : this instanceof Alibi ? 5 : 4;
        }

        boolean is(int kind) {
            Class<?>[] kinds = {Clue.class, Thread.class, Glove.class, Voice.class, Stain.class, Alibi.class};
            return kinds[kind].isInstance(this);
        }
    }

    private static class Thread extends Clue {
        int honest(Town t) {
            return tells;
        }

        public int size(Model m) {
            m.begins(11);
            return super.size(m) + mark(m);
        }

        public int mark(Model m) {
            m.begins(21);
            return super.mark(m) + off;
        }
    }

    private static final class Glove extends Thread {
        boolean works(Town t, int day) {
            return super.works(t, day) && day % 7 != t.sunday;
        }

        public int size(Model m) {
            m.begins(12);
            return -super.size(m);
        }

        public int mark(Model m) {
            m.begins(24);
            return super.mark(m) * 2;
        }
    }

    private static final class Voice extends Thread {
        int leaves(Town t) {
            return bribed ? t.all() - tells : tells;
        }

        public int mark(Model m) {
            m.begins(22);
            return super.mark(m) - 1000;
        }
    }

    private static class Stain extends Clue {
        int honest(Town t) {
            return t.all() - tells;
        }

        public int size(Model m) {
            m.begins(13);
            return super.size(m) - 100;
        }

        public int mark(Model m) {
            m.begins(23);
            return super.mark(m) - size(m);
        }
    }

    private static final class Alibi extends Stain {
        boolean works(Town t, int day) {
            return true;
        }

        public int size(Model m) {
            m.begins(14);
            return super.size(m) * 2;
        }
    }

    private static final class Town {
        int suspects, sunday, day;
        final List<Clue> clues = new ArrayList<>();

        int all() {
            return (1 << suspects) - 1;
        }

        Town twin() {
            Town t = new Town();
            t.suspects = suspects;
            t.sunday = sunday;
            t.day = day;
            for (Clue c : clues) {
                t.clues.add(Clue.of(c.kind(), c));
            }
            return t;
        }

        List<Clue> workers(int d) {
            List<Clue> list = new ArrayList<>();
            for (Clue c : clues) {
                if (c.works(this, day + d)) {
                    list.add(c);
                }
            }
            return list;
        }

        int left(List<Clue> of) {
            int bits = 0;
            for (int s = 0; s < suspects; s++) {
                boolean stays = true;
                for (Clue c : of) {
                    stays &= (c.leaves(this) & 1 << s) != 0;
                }
                bits += stays ? 1 << s : 0;
            }
            return bits;
        }

        int left(int d) {
            return left(workers(d));
        }

        int bribedBits() {
            int bits = 0;
            for (Clue c : clues) {
                bits += c.bribed ? 1 << c.number : 0;
            }
            return bits;
        }
    }

    private final int[][] rows = new int[8][];
    private final int[] lanes = new int[8];
    private final StringBuilder tape = new StringBuilder();
    private final Deque<Town> before = new ArrayDeque<>();
    private final Town[] images = new Town[2];
    private final List<Integer> trace = new ArrayList<>();
    private Town town;
    private int fault;
    private int status;

    private void begins(int body) {
        trace.add(body);
    }

    private int finding(int n) {
        status = n;
        return -1000010 - n;
    }

    private int fine(int answer) {
        status = 0;
        return answer;
    }

    private static boolean out(long n, long least, long most) {
        return n < least || n > most;
    }

    private boolean noClue(int c) {
        return town == null || out(c, 0, town.clues.size() - 1);
    }

    private void act() {
        before.push(town.twin());
        if (before.size() > 24) {
            before.removeLast();
        }
    }

    int row(int row, int lane, int n) {
        if (out(row, 0, 7) || out(lane, 0, 2) || n > 40) {
            return BAD;
        }
        if (n < 0) {
            return finding(4);
        }
        rows[row] = new int[n];
        lanes[row] = lane;
        return fine(n);
    }

    int set(int row, int i, int v) {
        if (out(row, 0, 7)) {
            return BAD;
        }
        if (rows[row] == null) {
            return finding(1);
        }
        if (out(i, 0, rows[row].length - 1)) {
            return finding(2);
        }
        int bits = 8 << lanes[row];
        rows[row][i] = v << 32 - bits >> 32 - bits;
        return fine(rows[row][i]);
    }

    int copy(int a, int i, int b, int j, int n) {
        if (out(a, 0, 7) || out(b, 0, 7)) {
            return BAD;
        }
        if (rows[a] == null || rows[b] == null) {
            return finding(1);
        }
        if (lanes[a] != lanes[b]) {
            return finding(5);
        }
        if (i < 0 || j < 0 || n < 0 || (long) i + n > rows[a].length || (long) j + n > rows[b].length) {
            return finding(2);
        }
        int[] taken = Arrays.copyOfRange(rows[a], i, i + n);
        for (int k = 0; k < n; k++) {
            rows[b][j + k] = taken[k];
        }
        return fine(n);
    }

    int drop(int row) {
        if (out(row, 0, 7)) {
            return BAD;
        }
        if (rows[row] == null) {
            return finding(1);
        }
        int n = rows[row].length;
        rows[row] = null;
        return fine(n);
    }

    int feed(int letter) {
        if (out(letter, 0, 255)) {
            return BAD;
        }
        if (tape.length() == 100) {
            return FULL;
        }
        tape.append((char) letter);
        return tape.length();
    }

    /** Tokens as texts: a letter, a number, a sign, "?" for none, and "" for the end. */
    private static List<String> tokens(String text, List<Integer> places) {
        List<String> list = new ArrayList<>();
        int p = 0;
        while (p < text.length()) {
            int q = p;
            while (q < text.length() && text.charAt(q) >= '0' && text.charAt(q) <= '9') {
                q++;
            }
            places.add(p);
            if (q == p) {
                char c = text.charAt(p);
                list.add(c >= 'a' && c <= 'z' || c == ',' || c == ';' ? String.valueOf(c) : "?");
                p++;
            } else {
                list.add(q - p > 2 ? "?" : text.substring(p, q));
                p = q;
            }
        }
        list.add("");
        places.add(text.length());
        return list;
    }

    private static boolean isNumber(String token) {
        return !token.isEmpty() && token.charAt(0) >= '0' && token.charAt(0) <= '9';
    }

    int city() {
        List<Integer> places = new ArrayList<>();
        List<String> tokens = tokens(tape.toString(), places);
        tape.setLength(0);
        Town t = new Town();
        int wrong = 0;
        int at = 0;
        Clue clue = null;
        for (; at < tokens.size() && wrong == 0; at++) {
            String token = tokens.get(at);
            boolean law = at < 5;
            int k = law ? at : (at - 5) % 7 - 1;
            if (law) {
                wrong = lawFault(t, token, k);
            } else if (k == -1) {
                if (token.isEmpty()) {
                    town = t;
                    before.clear();
                    return t.clues.size();
                }
                int sort = token.length() == 1 ? "tgvsa".indexOf(token) + 1 : 0;
                if (sort == 0) {
                    wrong = 1;
                } else if (t.clues.size() == 6) {
                    wrong = 3;
                } else {
                    clue = Clue.of(sort, null);
                    clue.number = t.clues.size();
                }
            } else {
                wrong = clueFault(t, clue, token, k);
            }
        }
        fault = wrong;
        return -1000100 - places.get(at - 1);
    }

    private static int lawFault(Town t, String token, int k) {
        String[] due = {"c", null, ",", null, ";"};
        if (due[k] != null) {
            return due[k].equals(token) ? 0 : 1;
        }
        if (!isNumber(token)) {
            return 1;
        }
        int n = Integer.parseInt(token);
        if (k == 1) {
            t.suspects = n;
            return out(n, 2, 6) ? 2 : 0;
        }
        t.sunday = n;
        return out(n, 0, 6) ? 2 : 0;
    }

    /** 0 TELLS, 1 a comma, 2 EVERY, 3 a comma, 4 OFF, 5 the end. */
    private static int clueFault(Town t, Clue clue, String token, int k) {
        if (k % 2 == 1) {
            return token.equals(k == 5 ? ";" : ",") ? end(t, clue, k) : 1;
        }
        if (!isNumber(token)) {
            return 1;
        }
        int n = Integer.parseInt(token);
        if (k == 0) {
            clue.tells = n;
            return out(n, 1, t.all()) ? 2 : 0;
        }
        if (k == 2) {
            clue.every = n;
            return out(n, 2, 4) ? 2 : 0;
        }
        clue.off = n;
        return out(n, 0, clue.every - 1) ? 2 : 0;
    }

    private static int end(Town t, Clue clue, int k) {
        if (k == 5) {
            t.clues.add(clue);
        }
        return 0;
    }

    int fault() {
        return fault;
    }

    int days(int n) {
        if (town == null) {
            return STATE;
        }
        if (out(n, 1, 24)) {
            return BAD;
        }
        if (town.day + n > 999) {
            return FULL;
        }
        for (int i = 0; i < n; i++) {
            act();
            town.day++;
        }
        return town.left(0);
    }

    int bribe(int clue, int on) {
        if (noClue(clue) || out(on, 0, 1)) {
            return BAD;
        }
        if (town.clues.get(clue).bribed == (on == 1)) {
            return STATE;
        }
        act();
        town.clues.get(clue).bribed = on == 1;
        return town.bribedBits();
    }

    int learn(int clue, int tells) {
        if (noClue(clue) || out(tells, 1, town.all())) {
            return BAD;
        }
        act();
        int was = town.clues.get(clue).tells;
        town.clues.get(clue).tells = tells;
        return was;
    }

    int shift(int clue, int v) {
        if (noClue(clue) || out(v, 0, town.clues.get(clue).every - 1)) {
            return BAD;
        }
        act();
        int was = town.clues.get(clue).off;
        town.clues.get(clue).off = v;
        return was;
    }

    int undo() {
        if (before.isEmpty()) {
            return STATE;
        }
        town = before.pop();
        return before.size();
    }

    int clue(int clue, int what) {
        if (noClue(clue) || out(what, 0, 5)) {
            return BAD;
        }
        Clue c = town.clues.get(clue);
        int[] answers = {c.tells, c.every, c.off, c.bribed ? 1 : 0, c.works(town, town.day) ? 1 : 0, c.leaves(town)};
        return answers[what];
    }

    private int sureBy(int d) {
        int left = town.left(d);
        for (int s = 0; s < 6; s++) {
            if (left == 1 << s) {
                return s;
            }
        }
        return NONE;
    }

    private static int bits(List<Clue> list) {
        int bits = 0;
        for (Clue c : list) {
            bits += 1 << c.number;
        }
        return bits;
    }

    int ahead(int d, int what) {
        if (town == null) {
            return STATE;
        }
        if (out(d, 0, 99) || out(what, 0, 2)) {
            return BAD;
        }
        return what == 0 ? town.left(d) : what == 1 ? bits(town.workers(d)) : sureBy(d);
    }

    int first(int mean) {
        if (town == null) {
            return STATE;
        }
        if (out(mean, 0, 1)) {
            return BAD;
        }
        for (int d = 0; d < 100; d++) {
            if (mean == 1 ? town.left(d) == 0 : sureBy(d) != NONE) {
                return d;
            }
        }
        return NONE;
    }

    int rota(int n, int k) {
        if (town == null) {
            return STATE;
        }
        if (out(n, 1, 14) || out(k, -1, 5)) {
            return BAD;
        }
        Town kept = town;
        town = town.twin();
        int[] best = {-1, NONE, NONE, NONE, NONE, NONE, NONE};
        tryRotas(0, n, best);
        town = kept;
        return best[k + 1];
    }

    private void tryRotas(int from, int n, int[] best) {
        if (from == town.clues.size()) {
            int sure = 0;
            for (int d = 0; d < n; d++) {
                sure += sureBy(d) == NONE ? 0 : 1;
            }
            if (sure > best[0]) {
                best[0] = sure;
                for (Clue c : town.clues) {
                    best[c.number + 1] = c.off;
                }
            }
            return;
        }
        Clue c = town.clues.get(from);
        for (c.off = 0; c.off < c.every; c.off++) {
            tryRotas(from + 1, n, best);
        }
    }

    int when(int suspect, int n) {
        if (town == null || out(suspect, 0, town.suspects - 1) || out(n, 1, 60)) {
            return BAD;
        }
        for (int many = 6; many > 1; many--) {
            for (int d = 0; d < n; d++) {
                int left = town.left(d);
                if (Integer.bitCount(left) == many && (left >> suspect) % 2 == 1) {
                    return d;
                }
            }
        }
        return NONE;
    }

    private int fewest(int d, int left, int what) {
        List<Clue> workers = town.workers(d);
        for (int many = 0; many <= workers.size(); many++) {
            for (int set = 0; set < 64; set++) {
                List<Clue> some = new ArrayList<>();
                for (Clue c : workers) {
                    if ((set >> c.number) % 2 == 1) {
                        some.add(c);
                    }
                }
                if (some.size() == many && bits(some) == set && town.left(some) == left) {
                    return what == 0 ? many : set;
                }
            }
        }
        return NONE;
    }

    int enough(int d, int what) {
        if (town == null) {
            return STATE;
        }
        return out(d, 0, 99) || out(what, 0, 1) ? BAD : fewest(d, town.left(d), what);
    }

    int clash(int d, int what) {
        if (town == null) {
            return STATE;
        }
        return out(d, 0, 99) || out(what, 0, 1) ? BAD : fewest(d, 0, what);
    }

    private boolean isTold(int row, int i, int n) {
        boolean so = true;
        for (int d = 0; d < n; d++) {
            so &= town.left(d) == rows[row][i + d];
        }
        return so;
    }

    private int rowFinding(int row, int i, int n) {
        return rows[row] == null ? 1 : i < 0 || (long) i + n > rows[row].length ? 2 : 0;
    }

    int bribes(int row, int i, int n) {
        if (town == null) {
            return STATE;
        }
        if (out(row, 0, 7) || out(n, 1, 16)) {
            return BAD;
        }
        if (rowFinding(row, i, n) != 0) {
            return finding(rowFinding(row, i, n));
        }
        int bits = isTold(row, i, n) ? 64 : 0;
        for (Clue c : town.clues) {
            c.bribed = !c.bribed;
            bits += isTold(row, i, n) ? 1 << c.number : 0;
            c.bribed = !c.bribed;
        }
        return fine(bits);
    }

    int fits(int clue, int row, int i, int n, int what) {
        if (noClue(clue) || out(row, 0, 7) || out(n, 1, 16) || out(what, 0, 1)) {
            return BAD;
        }
        if (rowFinding(row, i, n) != 0) {
            return finding(rowFinding(row, i, n));
        }
        Clue own = town.clues.get(clue);
        int bits = 0;
        for (int v = 0; v < (what == 0 ? 6 : own.every); v++) {
            if (what == 1 || v > 0) {
                Clue other = Clue.of(what == 0 ? v : own.kind(), own);
                other.off = what == 0 ? own.off : v;
                town.clues.set(clue, other);
                bits += isTold(row, i, n) ? 1 << v : 0;
            }
        }
        town.clues.set(clue, own);
        return fine(bits);
    }

    int strike(int d, int c, int what) {
        if (town == null) {
            return STATE;
        }
        if (out(d, 0, 99) || out(c, 0, 10) || out(what, 0, 1)) {
            return BAD;
        }
        List<Clue> workers = town.workers(d);
        BigInteger above = BigInteger.valueOf(sureWays(workers, 0, town.all(), c));
        BigInteger below = BigInteger.TEN.pow(workers.size());
        return (what == 0 ? above : below).divide(above.gcd(below)).intValue();
    }

    /** Of 10 to the number of workers yet to come, in how many cases one alone is left. */
    private long sureWays(List<Clue> workers, int from, int left, int c) {
        if (from == workers.size()) {
            return Integer.bitCount(left) == 1 ? 1 : 0;
        }
        int with = left & workers.get(from).leaves(town);
        return c * sureWays(workers, from + 1, left, c) + (10 - c) * sureWays(workers, from + 1, with, c);
    }

    int drawn(int n, int seed, int what) {
        if (town == null) {
            return STATE;
        }
        if (out(n, 0, 60) || out(seed, 1, 999999) || out(what, 0, 1)) {
            return BAD;
        }
        BigInteger x = BigInteger.valueOf(seed);
        int[] times = {0, 0};
        for (int d = 0; d < n; d++) {
            x = x.multiply(BigInteger.valueOf(16807)).mod(BigInteger.valueOf(2147483647));
            if (sureBy(d) != NONE) {
                times[sureBy(d) == x.mod(BigInteger.valueOf(town.suspects)).intValue() ? 0 : 1]++;
            }
        }
        return times[what];
    }

    int image(int k) {
        if (out(k, 0, 1)) {
            return BAD;
        }
        if (town == null) {
            return STATE;
        }
        images[k] = town.twin();
        return 1;
    }

    int restore(int k) {
        if (out(k, 0, 1)) {
            return BAD;
        }
        if (images[k] == null) {
            return STATE;
        }
        town = images[k].twin();
        before.clear();
        return 1;
    }

    int kind(int clue) {
        return noClue(clue) ? BAD : town.clues.get(clue).kind();
    }

    int as(int clue, int kind) {
        if (noClue(clue) || out(kind, 0, 5)) {
            return BAD;
        }
        return town.clues.get(clue).is(kind) ? fine(clue) : finding(3);
    }

    int ask(int clue, int what) {
        if (noClue(clue) || out(what, 0, 1)) {
            return BAD;
        }
        trace.clear();
        Clue c = town.clues.get(clue);
        return what == 0 ? c.size(this) : c.mark(this);
    }

    int trace(int i) {
        return out(i, 0, Math.min(16, trace.size()) - 1) ? NONE : trace.get(i);
    }

    int count(int what) {
        if (out(what, 0, 7)) {
            return BAD;
        }
        int present = 0;
        for (int[] row : rows) {
            present += row == null ? 0 : 1;
        }
        Town t = town == null ? new Town() : town;
        int[] all = {present, t.clues.size(), t.suspects, t.day, t.sunday, t.bribedBits(), before.size(),
            tape.length()};
        return all[what];
    }

    int status() {
        return status;
    }
}
