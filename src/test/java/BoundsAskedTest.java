import static java.lang.Integer.MAX_VALUE;
import static java.lang.Integer.MIN_VALUE;

/** Section 4 of the terms, KINDS, ASKS and THE TRACE, and promises 27 to 32: each sentence at its bounds. */
public final class BoundsAskedTest {
    private static final Twins.State[] ALL = Twins.State.values();
    private static final Twins.State NEW = Twins.State.NEW, BARE = Twins.State.BARE, MID = Twins.State.MID,
        PACKED = Twins.State.PACKED;
    private static final int[] NO_CLUES = {MIN_VALUE, -1, 6, 7, MAX_VALUE};

    public static void main(String[] args) {
        kinds();
        kindRefused();
        as();
        asRefused();
        asFound();
        bodies();
        nearest();
        widest();
        askedAnew();
        askRefused();
        traceAhead();
        traceAtBounds();
        traceOfOthers();
        counts();
        countsOfAllThereIs();
        countRefused();
        statusOfEach();
        statusStays();
        Due.end("BoundsAskedTest");
    }

    private static void kinds() {
        Due.sentence("The KIND of a CLUE, as told (1 to 5).");
        int[] kinds = {1, 2, 3, 4, 5, 1};
        for (int c = 0; c <= 5; c++) {
            int one = c;
            Twins.told("kind(" + c + ")", x -> x.kind(one), kinds[c], MID, PACKED);
        }
        for (int kind = 1; kind <= 5; kind++) {
            String sort = ".tgvsa".charAt(kind) + "1,2,0;";
            ClueLeave x = Due.of("c2,0;" + sort.repeat(6));
            Due.due("kind(0) of " + sort, x.kind(0), kind);
            Due.due("kind(5) of " + sort, x.kind(5), kind);
        }
    }

    private static void kindRefused() {
        Due.sentence("kind: BAD.");
        Twins.refused("kind(0)", x -> x.kind(0), Due.BAD, NEW, BARE);
        for (int c : NO_CLUES) {
            Twins.refused("kind(" + c + ")", x -> x.kind(c), Due.BAD, ALL);
        }
        ClueLeave x = Due.of("c2,0;t1,2,0;");
        Due.due("kind(1) of one clue", x.kind(1), Due.BAD);
    }

    /** By KIND, those that it is: 0 CLUE; 1 a CLUE; 2 and 3 a THREAD; 4 a CLUE; 5 a STAIN. */
    private static final String[] IS = {"0", "01", "012", "013", "04", "045"};

    private static void as() {
        Due.sentence("KINDS of CLUES: 0 CLUE; 1 THREAD, a CLUE; 2 GLOVE, a THREAD; 3 VOICE, a THREAD; 4 STAIN, a CLUE; 5 ALIBI, a STAIN.");
        int[] kinds = {1, 2, 3, 4, 5, 1};
        for (int c = 0; c <= 5; c++) {
            for (int k = 0; k <= 5; k++) {
                int one = c;
                int kind = k;
                String call = "as(" + c + ", " + k + ")";
                if (IS[kinds[c]].indexOf('0' + k) >= 0) {
                    Twins.toldOfRow(call, x -> x.as(one, kind), c, MID, PACKED);
                } else {
                    Twins.found(call, x -> x.as(one, kind), Due.KIND, MID, PACKED);
                }
            }
        }
    }

    private static void asRefused() {
        Due.sentence("A CLUE is taken as one of a KIND (0 .. 5): BAD");
        Twins.refused("as(0, 0)", x -> x.as(0, 0), Due.BAD, NEW, BARE);
        for (int c : NO_CLUES) {
            Twins.refused("as(" + c + ", 0)", x -> x.as(c, 0), Due.BAD, ALL);
            Twins.refused("as(" + c + ", 5)", x -> x.as(c, 5), Due.BAD, ALL);
        }
        for (int kind : new int[] {MIN_VALUE, -1, 6, 7, 31, 32, MAX_VALUE}) {
            Twins.refused("as(0, " + kind + ")", x -> x.as(0, kind), Due.BAD, ALL);
            Twins.refused("as(5, " + kind + ")", x -> x.as(5, kind), Due.BAD, ALL);
        }
    }

    private static void asFound() {
        Due.sentence("as: KIND: it is no such one.");
        ClueLeave x = Due.of(Due.SIX);
        Due.due("as(0, 2)", x.as(0, 2), Due.KIND);
        Due.due("status()", x.status(), 3);
        Due.due("kind(0) is as told", x.kind(0), 1);
        Due.due("as(4, 4), an alibi as a stain", x.as(4, 4), 4);
        Due.due("status()", x.status(), 0);
        Due.due("kind(4) is as told", x.kind(4), 5);
        Due.due("it is at work always, as an alibi", x.ahead(1, 1) >> 4 & 1, 1);
    }

    private static void ask(ClueLeave x, int clue, int what, int answer, int... trace) {
        String call = "ask(" + clue + ", " + what + ")";
        Due.due(call, x.ask(clue, what), answer);
        for (int i = 0; i <= 16; i++) {
            Due.due(call + ", trace(" + i + ")", x.trace(i), i < trace.length ? trace[i] : Due.NONE);
        }
    }

    /** Of a city of one kind: what clue 0 and clue 5 answer, TELLS being 1 and 63, OFF 0 and 3. */
    private static ClueLeave six(char sort) {
        String one = sort + "1,4,0;";
        return Due.of("c6,0;" + one.repeat(5) + sort + "63,4,3;");
    }

    private static void bodies() {
        Due.sentence("ASKS of CLUES, by BODIES, each of which leaves its number in THE TRACE as it begins");
        ClueLeave t = six('t');
        ask(t, 0, 0, 1, 11, 10, 21, 20);
        ask(t, 5, 0, 71, 11, 10, 21, 20);
        ask(t, 0, 1, 0, 21, 20);
        ask(t, 5, 1, 8, 21, 20);
        ClueLeave g = six('g');
        ask(g, 0, 0, -1, 12, 11, 10, 24, 21, 20);
        ask(g, 5, 0, -79, 12, 11, 10, 24, 21, 20);
        ask(g, 0, 1, 0, 24, 21, 20);
        ask(g, 5, 1, 16, 24, 21, 20);
        ClueLeave v = six('v');
        ask(v, 0, 0, -999, 11, 10, 22, 21, 20);
        ask(v, 5, 0, -929, 11, 10, 22, 21, 20);
        ask(v, 0, 1, -1000, 22, 21, 20);
        ask(v, 5, 1, -992, 22, 21, 20);
        ClueLeave s = six('s');
        ask(s, 0, 0, -99, 13, 10);
        ask(s, 5, 0, -37, 13, 10);
        ask(s, 0, 1, 99, 23, 20, 13, 10);
        ask(s, 5, 1, 42, 23, 20, 13, 10);
        ClueLeave a = six('a');
        ask(a, 0, 0, -198, 14, 13, 10);
        ask(a, 5, 0, -74, 14, 13, 10);
        ask(a, 0, 1, 198, 23, 20, 14, 13, 10);
        ask(a, 5, 1, 79, 23, 20, 14, 13, 10);
    }

    private static void nearest() {
        Due.sentence("the BODY told for the KIND begins, else that of the nearest KIND that it is, too, else the one that is lent");
        String sorts = "tgvsa";
        int[][] begins = {{11, 21}, {12, 24}, {11, 22}, {13, 23}, {14, 23}};
        for (int kind = 0; kind < 5; kind++) {
            ClueLeave x = six(sorts.charAt(kind));
            for (int what = 0; what <= 1; what++) {
                for (int c : new int[] {0, 5}) {
                    x.ask(c, what);
                    Due.due("what begins ask(" + c + ", " + what + ") of " + sorts.charAt(kind), x.trace(0),
                        begins[kind][what]);
                }
            }
        }
    }

    private static void widest() {
        Due.sentence("THE TRACE (the first 16): six are the most that an ask leaves");
        for (char sort : new char[] {'t', 'g', 'v', 's', 'a'}) {
            ClueLeave x = six(sort);
            for (int what = 0; what <= 1; what++) {
                x.ask(5, what);
                int many = 0;
                while (many < 16 && x.trace(many) != Due.NONE) {
                    many++;
                }
                int due = "tgvsa".indexOf(sort);
                int[][] most = {{4, 2}, {6, 3}, {5, 3}, {2, 4}, {3, 5}};
                Due.due("numbers left by ask(5, " + what + ") of " + sort, many, most[due][what]);
            }
        }
    }

    private static void askedAnew() {
        Due.sentence("SIZE, MARK within others are asked of the same CLUE anew");
        ClueLeave x = Due.of(Due.SIX);
        x.learn(1, 31);
        x.shift(1, 2);
        ask(x, 1, 0, -(31 + 2 * (1 + 2)), 12, 11, 10, 24, 21, 20);
        x.learn(4, 1);
        ask(x, 4, 1, 4 + 198, 23, 20, 14, 13, 10);
        x.bribe(4, 1);
        x.days(9);
        ask(x, 4, 1, 4 + 198, 23, 20, 14, 13, 10);
        x.restore(0);
        x.undo();
        ask(x, 4, 0, -198, 14, 13, 10);
    }

    private static void askRefused() {
        Due.sentence("An ASK (0, 1) of a CLUE. BAD (THE TRACE stays then).");
        for (int what = 0; what <= 1; what++) {
            int asked = what;
            Twins.refused("ask(0, " + what + ")", x -> x.ask(0, asked), Due.BAD, NEW, BARE);
            for (int c : NO_CLUES) {
                Twins.refused("ask(" + c + ", " + what + ")", x -> x.ask(c, asked), Due.BAD, ALL);
            }
        }
        for (int what : new int[] {MIN_VALUE, -1, 2, 3, MAX_VALUE}) {
            Twins.refused("ask(0, " + what + ")", x -> x.ask(0, what), Due.BAD, ALL);
            Twins.refused("ask(5, " + what + ")", x -> x.ask(5, what), Due.BAD, ALL);
        }
        ClueLeave x = PACKED.made();
        int[] trace = {12, 11, 10, 24, 21, 20};
        x.ask(6, 0);
        x.ask(0, 2);
        for (int i = 0; i < 6; i++) {
            Due.due("trace(" + i + ") behind BAD", x.trace(i), trace[i]);
        }
    }

    private static void traceAhead() {
        Due.sentence("THE TRACE is empty ahead of it.");
        ClueLeave x = Due.of(Due.SIX);
        for (int i = 0; i <= 16; i++) {
            Due.due("trace(" + i + ") ahead of the first ask", x.trace(i), Due.NONE);
        }
        for (int round = 0; round < 4; round++) {
            ask(x, 1, 0, -24, 12, 11, 10, 24, 21, 20);
            ask(x, 3, 0, -98, 13, 10);
            ask(x, 0, 1, 1, 21, 20);
        }
    }

    private static void traceAtBounds() {
        Due.sentence("Number i of THE TRACE; NONE.");
        for (int i : new int[] {MIN_VALUE, -16, -1, 6, 7, 15, 16, 17, MAX_VALUE}) {
            Twins.told("trace(" + i + ")", x -> x.trace(i), Due.NONE, ALL);
        }
        int[] trace = {12, 11, 10, 24, 21, 20};
        for (int i = 0; i < 6; i++) {
            int at = i;
            Twins.told("trace(" + i + ")", x -> x.trace(at), trace[i], MID, PACKED);
            Twins.told("trace(" + i + ")", x -> x.trace(at), Due.NONE, NEW, BARE);
        }
    }

    private static void traceOfOthers() {
        Due.sentence("THE TRACE is what the latest ASK left, whatever is called behind it");
        ClueLeave x = Due.of(Due.SIX);
        x.ask(4, 0);
        x.days(1);
        x.kind(0);
        x.as(0, 5);
        x.image(0);
        x.restore(0);
        x.undo();
        x.city();
        Due.read(x, "c2,0;");
        x.ask(0, 0);
        Due.due("trace(0)", x.trace(0), 14);
        Due.due("trace(1)", x.trace(1), 13);
        Due.due("trace(2)", x.trace(2), 10);
        Due.due("trace(3)", x.trace(3), Due.NONE);
    }

    private static void counts() {
        Due.sentence("How many: 0 ROWS, 1 CLUES, 2 SUSPECTS, 3 the DAY, 4 SUNDAY, 5 BRIBED, 6 ACTS, 7 bytes");
        int[] none = {0, 0, 0, 0, 0, 0, 0, 0};
        int[] bare = {0, 0, 2, 0, 0, 0, 0, 0};
        int[] mid = {4, 6, 5, 3, 3, 4, 7, 12};
        int[] packed = {8, 6, 5, 999, 3, 0, 24, 100};
        for (int what = 0; what <= 7; what++) {
            int asked = what;
            Twins.told("count(" + what + ")", x -> x.count(asked), none[what], NEW);
            Twins.told("count(" + what + ")", x -> x.count(asked), bare[what], BARE);
            Twins.told("count(" + what + ")", x -> x.count(asked), mid[what], MID);
            Twins.told("count(" + what + ")", x -> x.count(asked), packed[what], PACKED);
        }
    }

    private static void countsOfAllThereIs() {
        Due.sentence("count: none, and all there is room for");
        ClueLeave x = Due.of("c6,6;t63,4,3;g63,4,3;v63,4,3;s63,4,3;a63,4,3;t63,4,3;");
        for (int c = 0; c <= 5; c++) {
            x.bribe(c, 1);
        }
        Due.due("suspects", x.count(2), 6);
        Due.due("sunday", x.count(4), 6);
        Due.due("who are bribed", x.count(5), 63);
        for (int r = 0; r <= 7; r++) {
            x.row(r, 0, 0);
            Due.due("rows, though of no items", x.count(0), r + 1);
        }
        x.row(0, 1, 40);
        Due.due("a row in place of one", x.count(0), 8);
        for (int r = 0; r <= 7; r++) {
            x.drop(r);
            Due.due("rows", x.count(0), 7 - r);
        }
        x.drop(0);
        Due.due("no row", x.count(0), 0);
    }

    private static void countRefused() {
        Due.sentence("count: BAD.");
        for (int what : new int[] {MIN_VALUE, -2, -1, 8, 9, MAX_VALUE}) {
            Twins.refused("count(" + what + ")", x -> x.count(what), Due.BAD, ALL);
        }
    }

    /** MID's status() is 4, of row(): a call that is sound makes it 0, one that is found its number. */
    private static void status(String name, Twins.Call call, int due) {
        ClueLeave x = MID.made();
        Due.due("status() ahead of " + name, x.status(), 4);
        call.on(x);
        Due.due("status() behind " + name, x.status(), due);
        Due.due("status() again", x.status(), due);
    }

    private static void statusOfEach() {
        Due.sentence("Of the latest call with a ROW, or as(): the number of its FINDING; 0: it had none, or there was none.");
        Due.due("status() of a new object", new ClueLeave().status(), 0);
        status("row(0, 0, 0)", x -> x.row(0, 0, 0), 0);
        status("row(0, 0, -1)", x -> x.row(0, 0, -1), 4);
        status("set(0, 0, 0)", x -> x.set(0, 0, 0), 0);
        status("set(3, 0, 0)", x -> x.set(3, 0, 0), 1);
        status("set(0, 6, 0)", x -> x.set(0, 6, 0), 2);
        status("copy(0, 0, 4, 0, 3)", x -> x.copy(0, 0, 4, 0, 3), 0);
        status("copy(0, 0, 4, 0, 0)", x -> x.copy(0, 0, 4, 0, 0), 0);
        status("copy(0, 0, 3, 0, 3)", x -> x.copy(0, 0, 3, 0, 3), 1);
        status("copy(0, 0, 4, 0, 4)", x -> x.copy(0, 0, 4, 0, 4), 2);
        status("copy(0, 0, 1, 0, 3)", x -> x.copy(0, 0, 1, 0, 3), 5);
        status("drop(0)", x -> x.drop(0), 0);
        status("drop(3)", x -> x.drop(3), 1);
        status("bribes(0, 0, 1)", x -> x.bribes(0, 0, 1), 0);
        status("bribes(3, 0, 1)", x -> x.bribes(3, 0, 1), 1);
        status("bribes(0, 6, 1)", x -> x.bribes(0, 6, 1), 2);
        status("fits(0, 0, 0, 1, 0)", x -> x.fits(0, 0, 0, 1, 0), 0);
        status("fits(0, 3, 0, 1, 0)", x -> x.fits(0, 3, 0, 1, 0), 1);
        status("fits(0, 0, 6, 1, 0)", x -> x.fits(0, 0, 6, 1, 0), 2);
        status("as(0, 1)", x -> x.as(0, 1), 0);
        status("as(0, 2)", x -> x.as(0, 2), 3);
    }

    private static void statusStays() {
        Due.sentence("the latest call with a ROW, or as(), that was not BAD, STATE, FULL");
        status("row(8, 0, 0)", x -> x.row(8, 0, 0), 4);
        status("row(0, 0, 41)", x -> x.row(0, 0, 41), 4);
        status("set(8, 0, 0)", x -> x.set(8, 0, 0), 4);
        status("copy(0, 0, 8, 0, 0)", x -> x.copy(0, 0, 8, 0, 0), 4);
        status("drop(8)", x -> x.drop(8), 4);
        status("bribes(0, 0, 17)", x -> x.bribes(0, 0, 17), 4);
        status("fits(6, 0, 0, 1, 0)", x -> x.fits(6, 0, 0, 1, 0), 4);
        status("as(6, 0)", x -> x.as(6, 0), 4);
        status("as(0, 6)", x -> x.as(0, 6), 4);
        status("feed('c')", x -> x.feed('c'), 4);
        status("feed(-1)", x -> x.feed(-1), 4);
        status("city()", x -> x.city(), 4);
        status("fault()", x -> x.fault(), 4);
        status("days(1)", x -> x.days(1), 4);
        status("days(0)", x -> x.days(0), 4);
        status("bribe(0, 1)", x -> x.bribe(0, 1), 4);
        status("bribe(2, 1)", x -> x.bribe(2, 1), 4);
        status("learn(0, 1)", x -> x.learn(0, 1), 4);
        status("shift(0, 0)", x -> x.shift(0, 0), 4);
        status("undo()", x -> x.undo(), 4);
        status("clue(0, 0)", x -> x.clue(0, 0), 4);
        status("ahead(0, 0)", x -> x.ahead(0, 0), 4);
        status("first(0)", x -> x.first(0), 4);
        status("rota(1, 0)", x -> x.rota(1, 0), 4);
        status("when(0, 1)", x -> x.when(0, 1), 4);
        status("enough(0, 0)", x -> x.enough(0, 0), 4);
        status("clash(0, 0)", x -> x.clash(0, 0), 4);
        status("strike(0, 0, 0)", x -> x.strike(0, 0, 0), 4);
        status("drawn(1, 1, 0)", x -> x.drawn(1, 1, 0), 4);
        status("image(1)", x -> x.image(1), 4);
        status("restore(0)", x -> x.restore(0), 4);
        status("restore(1)", x -> x.restore(1), 4);
        status("kind(0)", x -> x.kind(0), 4);
        status("ask(0, 0)", x -> x.ask(0, 0), 4);
        status("trace(0)", x -> x.trace(0), 4);
        status("count(0)", x -> x.count(0), 4);
        ClueLeave y = new ClueLeave();
        y.row(0, 0, -1);
        Due.due("bribes() without a city", y.bribes(0, 0, 1), Due.STATE);
        Due.due("status() behind STATE", y.status(), 4);
        ClueLeave z = PACKED.made();
        z.feed(0);
        z.days(1);
        Due.due("status() behind FULL", z.status(), 3);
        Twins.told("status()", x -> x.status(), 0, NEW, BARE);
        Twins.told("status()", x -> x.status(), 4, MID);
        Twins.told("status()", x -> x.status(), 3, PACKED);
    }
}
