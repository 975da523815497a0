import static java.lang.Integer.MAX_VALUE;
import static java.lang.Integer.MIN_VALUE;

/** Section 1 of the terms, its ROWS, and promises 1 to 5: each sentence that names a bound, at that bound. */
public final class BoundsRowsTest {
    private static final Twins.State[] ALL = Twins.State.values();
    private static final Twins.State NEW = Twins.State.NEW, BARE = Twins.State.BARE, MID = Twins.State.MID,
        PACKED = Twins.State.PACKED;
    private static final int[] NO_ROWS = {MIN_VALUE, -1, 8, MAX_VALUE};

    public static void main(String[] args) {
        newObject();
        missingAtFirst();
        lanes();
        sizes();
        zeroAtFirst();
        rowInPlace();
        rowRefused();
        rowInOrder();
        lowestBits();
        itemAlone();
        setRefused();
        copiesAsAhead();
        copiesOfNone();
        copyRefused();
        copyInOrder();
        copyBeyond();
        drops();
        dropRefused();
        Due.end("BoundsRowsTest");
    }

    /** What a READER tells of an item: 64 of 0, itself of a power of 2 up to 32, 0 of any other. */
    private static void item(ClueLeave reader, int row, int i, int due) {
        Due.due("item " + i + " of row " + row, reader.bribes(row, i, 1), due);
    }

    private static void newObject() {
        Due.sentence("`ClueLeave()`: No CITY.");
        ClueLeave x = new ClueLeave();
        for (int what = 0; what <= 7; what++) {
            Due.due("count(" + what + ")", x.count(what), 0);
        }
        Due.due("fault()", x.fault(), 0);
        Due.due("status()", x.status(), 0);
        Due.due("trace(0)", x.trace(0), Due.NONE);
        Due.due("city() of nothing", new ClueLeave().city(), -1000100);
        Twins.refused("days(1)", y -> y.days(1), Due.STATE, NEW);
        Twins.refused("bribe(0, 1)", y -> y.bribe(0, 1), Due.BAD, NEW);
        Twins.refused("learn(0, 1)", y -> y.learn(0, 1), Due.BAD, NEW);
        Twins.refused("shift(0, 0)", y -> y.shift(0, 0), Due.BAD, NEW);
        Twins.refused("undo()", y -> y.undo(), Due.STATE, NEW);
        Twins.refused("clue(0, 0)", y -> y.clue(0, 0), Due.BAD, NEW);
        Twins.refused("ahead(0, 0)", y -> y.ahead(0, 0), Due.STATE, NEW);
        Twins.refused("first(0)", y -> y.first(0), Due.STATE, NEW);
        Twins.refused("rota(1, -1)", y -> y.rota(1, -1), Due.STATE, NEW);
        Twins.refused("when(0, 1)", y -> y.when(0, 1), Due.BAD, NEW);
        Twins.refused("enough(0, 0)", y -> y.enough(0, 0), Due.STATE, NEW);
        Twins.refused("clash(0, 0)", y -> y.clash(0, 0), Due.STATE, NEW);
        Twins.refused("bribes(0, 0, 1)", y -> y.bribes(0, 0, 1), Due.STATE, NEW);
        Twins.refused("fits(0, 0, 0, 1, 0)", y -> y.fits(0, 0, 0, 1, 0), Due.BAD, NEW);
        Twins.refused("strike(0, 0, 0)", y -> y.strike(0, 0, 0), Due.STATE, NEW);
        Twins.refused("drawn(0, 1, 0)", y -> y.drawn(0, 1, 0), Due.STATE, NEW);
        Twins.refused("image(0)", y -> y.image(0), Due.STATE, NEW);
        Twins.refused("restore(0)", y -> y.restore(0), Due.STATE, NEW);
        Twins.refused("kind(0)", y -> y.kind(0), Due.BAD, NEW);
        Twins.refused("as(0, 0)", y -> y.as(0, 0), Due.BAD, NEW);
        Twins.refused("ask(0, 0)", y -> y.ask(0, 0), Due.BAD, NEW);
    }

    private static void missingAtFirst() {
        Due.sentence("ROWS 0 .. 7 are missing (at first)");
        for (int r = 0; r <= 7; r++) {
            int row = r;
            Twins.found("drop(" + r + ")", x -> x.drop(row), Due.NULL, NEW, BARE);
            Twins.found("set(" + r + ", 0, 0)", x -> x.set(row, 0, 0), Due.NULL, NEW, BARE);
            Twins.found("copy(" + r + ", 0, " + r + ", 0, 0)", x -> x.copy(row, 0, row, 0, 0), Due.NULL, NEW, BARE);
            ClueLeave x = new ClueLeave();
            Due.due("row(" + r + ", 0, 1)", x.row(r, 0, 1), 1);
            Due.due("count(0)", x.count(0), 1);
            for (int other = 0; other <= 7; other++) {
                Due.due("set(" + other + ", 0, 3) beside row " + r, x.set(other, 0, 3), other == r ? 3 : Due.NULL);
            }
        }
        for (int row : NO_ROWS) {
            Twins.refused("row(" + row + ", 0, 1)", x -> x.row(row, 0, 1), Due.BAD, ALL);
        }
    }

    private static void lanes() {
        Due.sentence("a LANE (0 bytes, 1 shorts, 2 ints)");
        int[] of70000 = {112, 4464, 70000};
        for (int lane = 0; lane <= 2; lane++) {
            ClueLeave x = new ClueLeave();
            Due.due("row(0, " + lane + ", 1)", x.row(0, lane, 1), 1);
            Due.due("set(0, 0, 70000) of lane " + lane, x.set(0, 0, 70000), of70000[lane]);
        }
        for (int lane : new int[] {MIN_VALUE, -1, 3, MAX_VALUE}) {
            Twins.refused("row(0, " + lane + ", 1)", x -> x.row(0, lane, 1), Due.BAD, ALL);
        }
    }

    private static void sizes() {
        Due.sentence("0 to 40 ITEMS");
        for (int n : new int[] {0, 1, 2, 39, 40}) {
            for (int lane = 0; lane <= 2; lane++) {
                ClueLeave x = new ClueLeave();
                Due.due("row(7, " + lane + ", " + n + ")", x.row(7, lane, n), n);
                Due.due("status()", x.status(), 0);
                Due.due("count(0)", x.count(0), 1);
                Due.due("the last item of " + n, x.set(7, n - 1, 5), n == 0 ? Due.PLACE : 5);
                Due.due("behind the last item of " + n, x.set(7, n, 5), Due.PLACE);
                Due.due("drop(7)", x.drop(7), n);
            }
        }
    }

    private static void zeroAtFirst() {
        Due.sentence("0 to 40 ITEMS, 0 at first");
        for (int lane = 0; lane <= 2; lane++) {
            ClueLeave x = Due.of(Due.READER);
            x.row(0, lane, 40);
            for (int i = 0; i < 40; i++) {
                item(x, 0, i, 64);
                x.set(0, i, 1);
            }
            item(x, 0, 0, 1);
            item(x, 0, 39, 1);
            x.row(0, 2 - lane, 40);
            for (int i = 0; i < 40; i++) {
                item(x, 0, i, 64);
            }
        }
        ClueLeave x = Due.of(Due.READER);
        x.row(3, 0, 40);
        for (int i = 0; i < 40; i++) {
            x.set(3, i, 2);
        }
        Due.due("a row of fewer in its place", x.row(3, 0, 7), 7);
        Due.due("a row of all again", x.row(3, 0, 40), 40);
        item(x, 3, 6, 64);
        item(x, 3, 7, 64);
        item(x, 3, 39, 64);
        x.set(3, 39, 2);
        x.drop(3);
        x.row(3, 0, 40);
        item(x, 3, 39, 64);
    }

    private static void rowInPlace() {
        Due.sentence("A ROW of a LANE with n ITEMS, in place of what is there: n.");
        ClueLeave x = new ClueLeave();
        Due.due("row(0, 0, 40)", x.row(0, 0, 40), 40);
        Due.due("row(0, 2, 0)", x.row(0, 2, 0), 0);
        Due.due("count(0)", x.count(0), 1);
        Due.due("none of the 40 is there", x.set(0, 0, 1), Due.PLACE);
        Due.due("row(0, 1, 1)", x.row(0, 1, 1), 1);
        Due.due("its lane is another", x.set(0, 0, 70000), 4464);
        Due.due("drop(0)", x.drop(0), 1);
        Due.due("it was but one", x.drop(0), Due.NULL);
        for (int r = 0; r <= 7; r++) {
            Due.due("row(" + r + ", 0, 40)", x.row(r, 0, 40), 40);
            Due.due("count(0)", x.count(0), r + 1);
        }
    }

    private static void rowRefused() {
        Due.sentence("BAD: ROW, LANE, n above 40; SIZE.");
        for (int n : new int[] {41, 42, 1000, MAX_VALUE}) {
            Twins.refused("row(0, 0, " + n + ")", x -> x.row(0, 0, n), Due.BAD, ALL);
            Twins.refused("row(7, 2, " + n + ")", x -> x.row(7, 2, n), Due.BAD, ALL);
        }
        for (int n : new int[] {-1, -2, -40, MIN_VALUE}) {
            Twins.found("row(0, 0, " + n + ")", x -> x.row(0, 0, n), Due.SIZE, ALL);
            Twins.found("row(7, 2, " + n + ")", x -> x.row(7, 2, n), Due.SIZE, ALL);
        }
    }

    private static void rowInOrder() {
        Due.sentence("BAD: ROW, LANE, n above 40; SIZE. (the first of these that fits)");
        Twins.refused("row(8, 0, -1)", x -> x.row(8, 0, -1), Due.BAD, ALL);
        Twins.refused("row(-1, 0, min)", x -> x.row(-1, 0, MIN_VALUE), Due.BAD, ALL);
        Twins.refused("row(0, 3, -1)", x -> x.row(0, 3, -1), Due.BAD, ALL);
        Twins.refused("row(0, -1, min)", x -> x.row(0, -1, MIN_VALUE), Due.BAD, ALL);
        Twins.refused("row(8, 3, 41)", x -> x.row(8, 3, 41), Due.BAD, ALL);
    }

    private static void lowestBits() {
        Due.sentence("ITEM i becomes v, its lowest bits, as many as the LANE has: what it is then.");
        ClueLeave x = new ClueLeave();
        x.row(0, 0, 1);
        x.row(1, 1, 1);
        x.row(2, 2, 1);
        int[][] bytes = {{0, 0}, {1, 1}, {127, 127}, {128, -128}, {129, -127}, {255, -1}, {256, 0}, {257, 1},
            {-1, -1}, {-127, -127}, {-128, -128}, {-129, 127}, {-256, 0}, {-257, -1}, {32767, -1}, {32768, 0},
            {MAX_VALUE, -1}, {MIN_VALUE, 0}, {MIN_VALUE + 128, -128}};
        for (int[] v : bytes) {
            Due.due("bytes, " + v[0], x.set(0, 0, v[0]), v[1]);
        }
        int[][] shorts = {{0, 0}, {128, 128}, {32767, 32767}, {32768, -32768}, {32769, -32767}, {65535, -1},
            {65536, 0}, {65537, 1}, {-1, -1}, {-32768, -32768}, {-32769, 32767}, {-65536, 0}, {-65537, -1},
            {MAX_VALUE, -1}, {MIN_VALUE, 0}, {MIN_VALUE + 32768, -32768}};
        for (int[] v : shorts) {
            Due.due("shorts, " + v[0], x.set(1, 0, v[0]), v[1]);
        }
        for (int v : new int[] {0, 1, -1, 127, 128, 32767, 32768, 65536, MAX_VALUE, MIN_VALUE, MIN_VALUE + 1}) {
            Due.due("ints, " + v, x.set(2, 0, v), v);
        }
        ClueLeave y = Due.of(Due.READER);
        y.row(0, 0, 1);
        y.set(0, 0, 256 + 32);
        item(y, 0, 0, 32);
        y.row(0, 1, 1);
        y.set(0, 0, 256 + 32);
        item(y, 0, 0, 0);
        y.set(0, 0, 65536);
        item(y, 0, 0, 64);
        y.row(0, 2, 1);
        y.set(0, 0, 65536);
        item(y, 0, 0, 0);
    }

    private static void itemAlone() {
        Due.sentence("ITEM i becomes v");
        for (int i : new int[] {0, 1, 38, 39}) {
            ClueLeave x = Due.of(Due.READER);
            x.row(6, 1, 40);
            x.row(7, 1, 40);
            Due.due("set(6, " + i + ", 16)", x.set(6, i, 16), 16);
            for (int k = 0; k < 40; k++) {
                item(x, 6, k, k == i ? 16 : 64);
                item(x, 7, k, 64);
            }
        }
    }

    private static void setRefused() {
        Due.sentence("set: BAD: ROW; NULL; PLACE.");
        for (int row : NO_ROWS) {
            Twins.refused("set(" + row + ", 0, 1)", x -> x.set(row, 0, 1), Due.BAD, ALL);
            Twins.refused("set(" + row + ", -1, 1)", x -> x.set(row, -1, 1), Due.BAD, ALL);
        }
        for (int i : new int[] {MIN_VALUE, -1, 0, 40, MAX_VALUE}) {
            Twins.found("set(3, " + i + ", 1), missing", x -> x.set(3, i, 1), Due.NULL, NEW, BARE, MID);
        }
        for (int i : new int[] {MIN_VALUE, -1, 6, 7, MAX_VALUE}) {
            Twins.found("set(0, " + i + ", 1) of six", x -> x.set(0, i, 1), Due.PLACE, MID);
        }
        for (int i : new int[] {MIN_VALUE, -1, 40, 41, MAX_VALUE}) {
            Twins.found("set(7, " + i + ", 1) of 40", x -> x.set(7, i, 1), Due.PLACE, PACKED);
        }
        for (int i : new int[] {MIN_VALUE, -1, 0, 1, MAX_VALUE}) {
            Twins.found("set(2, " + i + ", 1) of none", x -> x.set(2, i, 1), Due.PLACE, MID);
        }
        ClueLeave x = Twins.State.MID.made();
        Due.due("set(0, 0, 3)", x.set(0, 0, 3), 3);
        Due.due("status() behind it", x.status(), 0);
        Due.due("set(0, 5, 3)", x.set(0, 5, 3), 3);
    }

    private static ClueLeave powers() {
        ClueLeave x = Due.of(Due.READER);
        x.row(0, 0, 6);
        for (int i = 0; i < 6; i++) {
            x.set(0, i, 1 << i);
        }
        x.row(1, 0, 40);
        return x;
    }

    private static void items(ClueLeave x, int row, int from, int... due) {
        for (int i = 0; i < due.length; i++) {
            item(x, row, from + i, due[i]);
        }
    }

    private static void copiesAsAhead() {
        Due.sentence("n ITEMS of a from i on come to b from j on, as they were ahead: n.");
        ClueLeave x = powers();
        Due.due("up by one, to the end", x.copy(0, 0, 0, 1, 5), 5);
        items(x, 0, 0, 1, 1, 2, 4, 8, 16);
        x = powers();
        Due.due("down by one, from the end", x.copy(0, 1, 0, 0, 5), 5);
        items(x, 0, 0, 2, 4, 8, 16, 32, 32);
        x = powers();
        Due.due("to its own place", x.copy(0, 0, 0, 0, 6), 6);
        items(x, 0, 0, 1, 2, 4, 8, 16, 32);
        Due.due("one, the last to the first", x.copy(0, 5, 0, 0, 1), 1);
        items(x, 0, 0, 32, 2, 4, 8, 16, 32);
        x = powers();
        Due.due("all to the last places", x.copy(0, 0, 1, 34, 6), 6);
        items(x, 1, 32, 64, 64, 1, 2, 4, 8, 16, 32);
        items(x, 0, 0, 1, 2, 4, 8, 16, 32);
        Due.due("to the first places, the last of 40", x.copy(1, 39, 1, 0, 1), 1);
        items(x, 1, 0, 32, 64);
        x.row(2, 0, 40);
        Due.due("all 40", x.copy(1, 0, 2, 0, 40), 40);
        Due.due("status()", x.status(), 0);
        items(x, 2, 0, 32, 64);
        items(x, 2, 33, 64, 1, 2, 4, 8, 16, 32);
        x.row(3, 2, 2);
        x.row(4, 2, 2);
        x.set(3, 0, 65536);
        x.set(3, 1, 4);
        Due.due("ints", x.copy(3, 0, 4, 0, 2), 2);
        items(x, 4, 0, 0, 4);
    }

    private static void copiesOfNone() {
        Due.sentence("copy: n ITEMS, none of them");
        Twins.toldOfRow("copy(0, 0, 4, 0, 0)", x -> x.copy(0, 0, 4, 0, 0), 0, MID);
        Twins.toldOfRow("copy(0, 6, 4, 3, 0), behind both ends", x -> x.copy(0, 6, 4, 3, 0), 0, MID);
        Twins.toldOfRow("copy(2, 0, 2, 0, 0), of no items", x -> x.copy(2, 0, 2, 0, 0), 0, MID);
        Twins.toldOfRow("copy(7, 40, 1, 40, 0)", x -> x.copy(7, 40, 1, 40, 0), 0, PACKED);
    }

    private static void copyRefused() {
        Due.sentence("copy: BAD: ROWS; NULL; STORE");
        for (int row : NO_ROWS) {
            Twins.refused("copy(" + row + ", 0, 0, 0, 0)", x -> x.copy(row, 0, 0, 0, 0), Due.BAD, ALL);
            Twins.refused("copy(0, 0, " + row + ", 0, 0)", x -> x.copy(0, 0, row, 0, 0), Due.BAD, ALL);
        }
        Twins.found("copy(3, 0, 0, 0, 0), from a missing one", x -> x.copy(3, 0, 0, 0, 0), Due.NULL, MID);
        Twins.found("copy(0, 0, 3, 0, 0), to a missing one", x -> x.copy(0, 0, 3, 0, 0), Due.NULL, MID);
        Twins.found("copy(3, 0, 5, 0, 0), both missing", x -> x.copy(3, 0, 5, 0, 0), Due.NULL, NEW, BARE, MID);
        Twins.found("copy(3, 0, 3, 0, 0), one that is missing", x -> x.copy(3, 0, 3, 0, 0), Due.NULL, MID);
        Twins.found("copy(0, 0, 1, 0, 0), bytes to shorts", x -> x.copy(0, 0, 1, 0, 0), Due.STORE, MID, PACKED);
        Twins.found("copy(1, 0, 0, 0, 1), shorts to bytes", x -> x.copy(1, 0, 0, 0, 1), Due.STORE, MID, PACKED);
        Twins.found("copy(2, 0, 1, 0, 0), ints to shorts", x -> x.copy(2, 0, 1, 0, 0), Due.STORE, MID, PACKED);
        Twins.found("copy(0, 0, 2, 0, 0), bytes to ints", x -> x.copy(0, 0, 2, 0, 0), Due.STORE, MID, PACKED);
    }

    private static void copyInOrder() {
        Due.sentence("FINDINGS, of several the first in time (copy: NULL; STORE; PLACE)");
        Twins.refused("copy(3, -1, 8, -1, -1)", x -> x.copy(3, -1, 8, -1, -1), Due.BAD, ALL);
        Twins.refused("copy(8, -1, 3, -1, -1)", x -> x.copy(8, -1, 3, -1, -1), Due.BAD, ALL);
        Twins.found("copy(3, -1, 0, -1, -1)", x -> x.copy(3, -1, 0, -1, -1), Due.NULL, MID);
        Twins.found("copy(0, -1, 3, -1, -1)", x -> x.copy(0, -1, 3, -1, -1), Due.NULL, MID);
        Twins.found("copy(0, -1, 1, 0, 1)", x -> x.copy(0, -1, 1, 0, 1), Due.STORE, MID, PACKED);
        Twins.found("copy(0, 0, 1, 41, 1)", x -> x.copy(0, 0, 1, 41, 1), Due.STORE, MID, PACKED);
        Twins.found("copy(0, 0, 1, 0, -1)", x -> x.copy(0, 0, 1, 0, -1), Due.STORE, MID, PACKED);
    }

    private static void copyBeyond() {
        Due.sentence("copy: PLACE (i, j, n below 0, or beyond an end)");
        // Of MID rows 0 and 4 are bytes, six of them and three.
        int[][] beyond = {{-1, 0, 0}, {-1, 0, 1}, {-1, 0, 3}, {0, -1, 0}, {0, -1, 1}, {0, 0, -1}, {6, 3, -1},
            {7, 0, 0}, {0, 4, 0}, {6, 0, 1}, {0, 3, 1}, {5, 0, 2}, {4, 0, 3}, {0, 2, 2}, {0, 1, 3}, {0, 0, 4}, {0, 0, 7},
            {1, 0, MAX_VALUE}, {0, 1, MAX_VALUE}, {0, 0, MAX_VALUE}, {MAX_VALUE, 0, 1}, {0, MAX_VALUE, 1},
            {MAX_VALUE, MAX_VALUE, MAX_VALUE}, {MAX_VALUE, 0, 0}, {0, MAX_VALUE, 0}, {MIN_VALUE, 0, 0},
            {0, MIN_VALUE, 0}, {0, 0, MIN_VALUE}, {MIN_VALUE, MIN_VALUE, MIN_VALUE}, {MIN_VALUE, 0, MAX_VALUE},
            {MAX_VALUE, 0, MIN_VALUE}, {6, 3, MIN_VALUE}, {MAX_VALUE - 2, 0, 3}, {0, MAX_VALUE - 2, 3}};
        for (int[] b : beyond) {
            Twins.found("copy(0, " + b[0] + ", 4, " + b[1] + ", " + b[2] + ")",
                x -> x.copy(0, b[0], 4, b[1], b[2]), Due.PLACE, MID);
            Twins.found("copy(4, " + b[1] + ", 0, " + b[0] + ", " + b[2] + ")",
                x -> x.copy(4, b[1], 0, b[0], b[2]), Due.PLACE, MID);
        }
        for (int[] at : new int[][] {{3, 0, 3}, {0, 0, 3}, {5, 2, 1}, {4, 1, 2}}) {
            String call = "copy(0, " + at[0] + ", 4, " + at[1] + ", " + at[2] + "), up to an end";
            ClueLeave x = MID.made();
            Due.due(call, x.copy(0, at[0], 4, at[1], at[2]), at[2]);
            Due.due(call + ", status()", x.status(), 0);
        }
        Twins.found("copy(2, 0, 2, 0, 1), of no items", x -> x.copy(2, 0, 2, 0, 1), Due.PLACE, MID);
        Twins.found("copy(2, 1, 2, 0, 0), of no items", x -> x.copy(2, 1, 2, 0, 0), Due.PLACE, MID);
        Twins.found("copy(2, 0, 2, 0, -1), of no items", x -> x.copy(2, 0, 2, 0, -1), Due.PLACE, MID);
        Twins.found("copy(0, 0, 3, 0, 41)", x -> x.copy(0, 0, 3, 0, 41), Due.PLACE, PACKED);
        Twins.found("copy(0, 1, 3, 0, 40)", x -> x.copy(0, 1, 3, 0, 40), Due.PLACE, PACKED);
        Twins.found("copy(0, 0, 3, 1, 40)", x -> x.copy(0, 0, 3, 1, 40), Due.PLACE, PACKED);
    }

    private static void drops() {
        Due.sentence("A ROW is missing from now on: how many ITEMS it had.");
        for (int r = 0; r <= 7; r++) {
            ClueLeave x = PACKED.made();
            Due.due("drop(" + r + ")", x.drop(r), 40);
            Due.due("status()", x.status(), 0);
            Due.due("count(0)", x.count(0), 7);
            Due.due("set(" + r + ", 0, 1)", x.set(r, 0, 1), Due.NULL);
            Due.due("copy from it", x.copy(r, 0, (r + 1) % 8, 0, 0), Due.NULL);
            Due.due("copy to it", x.copy((r + 1) % 8, 0, r, 0, 0), Due.NULL);
            Due.due("bribes()", x.bribes(r, 0, 1), Due.NULL);
            Due.due("fits()", x.fits(0, r, 0, 1, 0), Due.NULL);
            Due.due("drop(" + r + ") again", x.drop(r), Due.NULL);
            for (int other = 0; other <= 7; other++) {
                if (other != r) {
                    Due.due("drop(" + other + ")", x.drop(other), 40);
                }
            }
            Due.due("none is left", x.count(0), 0);
            Due.due("row(" + r + ", 0, 40)", x.row(r, 0, 40), 40);
        }
        ClueLeave y = MID.made();
        Due.due("drop(2), of no items", y.drop(2), 0);
        Due.due("count(0)", y.count(0), 3);
        Due.due("drop(0)", y.drop(0), 6);
        Due.due("drop(4)", y.drop(4), 3);
    }

    private static void dropRefused() {
        Due.sentence("drop: BAD; NULL.");
        for (int row : NO_ROWS) {
            Twins.refused("drop(" + row + ")", x -> x.drop(row), Due.BAD, ALL);
        }
        for (int r : new int[] {3, 5, 6, 7}) {
            Twins.found("drop(" + r + ")", x -> x.drop(r), Due.NULL, NEW, BARE, MID);
        }
    }
}
