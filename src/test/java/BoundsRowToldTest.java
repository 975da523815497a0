import static java.lang.Integer.MAX_VALUE;
import static java.lang.Integer.MIN_VALUE;

/** Section 3 of the terms, what a row tells, and IMAGES: promises 21, 22, 25, 26, each sentence at its bounds. */
public final class BoundsRowToldTest {
    private static final Twins.State NEW = Twins.State.NEW, BARE = Twins.State.BARE, MID = Twins.State.MID,
        PACKED = Twins.State.PACKED;
    private static final int[] NO_ROWS = {MIN_VALUE, -1, 8, 9, MAX_VALUE};
    private static final int[] NO_CLUES = {MIN_VALUE, -1, 6, 7, MAX_VALUE};
    private static final int[] NO_DAYS = {MIN_VALUE, -1, 0, 17, 18, 40, MAX_VALUE};
    private static final int[] NO_IMAGES = {MIN_VALUE, -1, 2, 3, MAX_VALUE};
    /** Row, place, number of items, below or beyond an end of the rows of MID: of 6 items, none, 40, 3. */
    private static final int[][] BEYOND = {{0, -1, 1}, {0, -1, 6}, {0, 6, 1}, {0, 5, 2}, {0, 1, 6}, {0, 0, 7},
        {0, MIN_VALUE, 1}, {0, MIN_VALUE, 16}, {0, MAX_VALUE, 1}, {0, MAX_VALUE, 16}, {0, MAX_VALUE - 15, 16},
        {0, MAX_VALUE - 14, 16}, {2, 0, 1}, {2, -1, 1}, {2, 0, 16}, {1, -1, 16}, {1, 40, 1}, {1, 39, 2}, {1, 25, 16},
        {4, 3, 1}, {4, 0, 4}, {4, -1, 4}};
    /** Up to an end of the same rows. */
    private static final int[][] WITHIN = {{0, 0, 1}, {0, 0, 6}, {0, 5, 1}, {0, 1, 5}, {1, 0, 16}, {1, 24, 16},
        {1, 39, 1}, {4, 0, 3}, {4, 2, 1}};

    public static void main(String[] args) {
        oneDayAndSixteen();
        itemsOfAllLanes();
        oneAlone();
        withoutClues();
        bribesRefused();
        bribesBeyond();
        sorts();
        offs();
        fitsRefused();
        fitsInOrder();
        fitsBeyond();
        lastDay();
        images();
        imagesRefused();
        restored();
        restoreRefused();
        imagesApart();
        Due.end("BoundsRowToldTest");
    }

    private static void tell(ClueLeave x, int row, int lane, int... items) {
        x.row(row, lane, items.length);
        for (int i = 0; i < items.length; i++) {
            x.set(row, i, items[i]);
        }
    }

    /** LEFT of PAIR on n days from a day on. */
    private static int[] left(int from, int n) {
        int[] left = {6, 3, 6, 2, 7, 2};
        int[] told = new int[n];
        for (int d = 0; d < n; d++) {
            told[d] = left[(from + d) % 6];
        }
        return told;
    }

    private static void oneDayAndSixteen() {
        Due.sentence("A row tells LEFT (bits) on each of n DAYS (1 to 16), this one first.");
        for (int n = 1; n <= 16; n++) {
            ClueLeave x = Due.of(Due.PAIR);
            tell(x, 0, 0, left(0, n));
            // On day 0 the thread is off: it is all one whether it is bribed.
            Due.due("bribes() of " + n + " days", x.bribes(0, 0, n), n == 1 ? 65 : 64);
            Due.due("status()", x.status(), 0);
            Due.due("fits(), sorts of " + n, x.fits(0, 0, 0, n, 0) & 2, 2);
            Due.due("fits(), offs of " + n, x.fits(0, 0, 0, n, 1), 1);
            for (int wrong = 0; wrong < n; wrong++) {
                x.set(0, wrong, 0);
                Due.due("bribes() of " + n + " days, wrong on " + wrong, x.bribes(0, 0, n) & 64, 0);
                Due.due("fits() of " + n + " days, wrong on " + wrong, x.fits(0, 0, 0, n, 1), 0);
                x.set(0, wrong, left(wrong, 1)[0]);
            }
        }
        ClueLeave y = Due.of(Due.PAIR);
        tell(y, 0, 0, left(1, 16));
        Due.due("told from day 1 on, on day 0", y.bribes(0, 0, 16), 0);
        y.days(1);
        Due.due("told from day 1 on, on day 1", y.bribes(0, 0, 16), 64);
        y.row(1, 0, 40);
        Due.due("from its place on, not from the row's first", y.copy(0, 0, 1, 24, 16), 16);
        Due.due("the last 16 of 40", y.bribes(1, 24, 16), 64);
        Due.due("but one", y.bribes(1, 23, 16), 0);
    }

    private static void itemsOfAllLanes() {
        Due.sentence("A row tells LEFT (bits): an ITEM of any LANE, as it is");
        for (int lane = 0; lane <= 2; lane++) {
            ClueLeave x = Due.of("c6,0;a1,2,0;");
            tell(x, 0, lane, 62, -2, 62 + 64, 62 + 128, 62 + 256, 62 + 65536, 62 + (1 << 31));
            int[] due = {64, 0, 0, 0, lane == 0 ? 64 : 0, lane <= 1 ? 64 : 0, lane <= 1 ? 64 : 0};
            for (int i = 0; i < due.length; i++) {
                Due.due("bribes() of item " + i + ", lane " + lane, x.bribes(0, i, 1), due[i]);
                Due.due("offs of item " + i + ", lane " + lane, x.fits(0, 0, i, 1, 1), due[i] == 64 ? 3 : 0);
            }
        }
    }

    private static void oneAlone() {
        Due.sentence("BRIBES: clues (bits), one of which alone is otherwise than now; 64 more, if it is so as it is.");
        Twins.toldOfRow("bribes(0, 2, 1)", x -> x.bribes(0, 2, 1), 123, MID);
        Twins.toldOfRow("bribes(0, 3, 1)", x -> x.bribes(0, 3, 1), 4, MID);
        Twins.toldOfRow("bribes(0, 0, 6)", x -> x.bribes(0, 0, 6), 0, MID);
        Twins.toldOfRow("bribes(2, 39, 1)", x -> x.bribes(2, 39, 1), 4, PACKED);
        Twins.toldOfRow("bribes(0, 24, 16)", x -> x.bribes(0, 24, 16), 0, PACKED);
        ClueLeave x = Due.of(Due.READER);
        tell(x, 0, 0, 0, 1, 2, 4, 8, 16, 32, 3, 63);
        int[] none = {64, 1, 2, 4, 8, 16, 32, 0, 0};
        for (int i = 0; i < none.length; i++) {
            Due.due("none is bribed, item " + i, x.bribes(0, i, 1), none[i]);
        }
        x.bribe(0, 1);
        int[] one = {1, 64, 0, 0, 0, 0, 0, 2, 0};
        for (int i = 0; i < one.length; i++) {
            Due.due("the first is bribed, item " + i, x.bribes(0, i, 1), one[i]);
        }
        for (int c = 1; c < 6; c++) {
            x.bribe(c, 1);
        }
        tell(x, 1, 0, 62, 61, 59, 55, 47, 31, 63, 0, 60);
        int[] all = {1, 2, 4, 8, 16, 32, 64, 0, 0};
        for (int i = 0; i < all.length; i++) {
            Due.due("all are bribed, item " + i, x.bribes(1, i, 1), all[i]);
        }
        // Nobody is at work: whoever is bribed, it is so.
        ClueLeave y = Due.of("c2,0;t1,2,0;g1,2,0;v1,2,0;s1,2,0;t2,3,0;t2,4,0;");
        tell(y, 0, 0, 3);
        Due.due("all of them, and as it is", y.bribes(0, 0, 1), 127);
    }

    private static void withoutClues() {
        Due.sentence("BRIBES of a city without clues");
        for (int s = 2; s <= 6; s++) {
            ClueLeave x = Due.of("c" + s + ",0;");
            int all = (1 << s) - 1;
            tell(x, 0, 0, all, all, all, all, all, all, all, all, all, all, all, all, all, all, all, all, all - 1, 0);
            Due.due("as it is", x.bribes(0, 0, 16), 64);
            Due.due("all but the last", x.bribes(0, 1, 16), 0);
            Due.due("an item of another set", x.bribes(0, 16, 1), 0);
            Due.due("an item of none", x.bribes(0, 17, 1), 0);
            Due.due("fits()", x.fits(0, 0, 0, 1, 0), Due.BAD);
        }
    }

    private static void bribesRefused() {
        Due.sentence("bribes: BAD: ROW, n; STATE: no CITY (ahead of BAD); NULL; PLACE.");
        for (int row : NO_ROWS) {
            Twins.refused("bribes(" + row + ", 0, 1)", x -> x.bribes(row, 0, 1), Due.STATE, NEW);
            Twins.refused("bribes(" + row + ", 0, 1)", x -> x.bribes(row, 0, 1), Due.BAD, BARE, MID, PACKED);
            Twins.refused("bribes(" + row + ", -1, 1)", x -> x.bribes(row, -1, 1), Due.BAD, BARE, MID, PACKED);
        }
        for (int n : NO_DAYS) {
            Twins.refused("bribes(0, 0, " + n + ")", x -> x.bribes(0, 0, n), Due.STATE, NEW);
            Twins.refused("bribes(0, 0, " + n + ")", x -> x.bribes(0, 0, n), Due.BAD, BARE, MID, PACKED);
            Twins.refused("bribes(3, 0, " + n + "), missing", x -> x.bribes(3, 0, n), Due.BAD, BARE, MID);
            Twins.refused("bribes(0, -1, " + n + ")", x -> x.bribes(0, -1, n), Due.BAD, MID, PACKED);
            Twins.refused("bribes(1, 40, " + n + ")", x -> x.bribes(1, 40, n), Due.BAD, MID, PACKED);
        }
        Twins.refused("bribes(0, 0, 1)", x -> x.bribes(0, 0, 1), Due.STATE, NEW);
        for (int i : new int[] {MIN_VALUE, -1, 0, 40, MAX_VALUE}) {
            Twins.refused("bribes(3, " + i + ", 1)", x -> x.bribes(3, i, 1), Due.STATE, NEW);
            Twins.found("bribes(3, " + i + ", 1)", x -> x.bribes(3, i, 1), Due.NULL, BARE, MID);
            Twins.found("bribes(7, " + i + ", 16)", x -> x.bribes(7, i, 16), Due.NULL, BARE, MID);
        }
    }

    private static void bribesBeyond() {
        Due.sentence("bribes: n ITEMS of a ROW from i on: PLACE");
        for (int[] b : BEYOND) {
            String call = "bribes(" + b[0] + ", " + b[1] + ", " + b[2] + ")";
            Twins.found(call, x -> x.bribes(b[0], b[1], b[2]), Due.PLACE, MID);
        }
        for (int[] w : WITHIN) {
            String call = "bribes(" + w[0] + ", " + w[1] + ", " + w[2] + ")";
            Twins.toldOfRow(call, x -> x.bribes(w[0], w[1], w[2]), 0, MID);
        }
        Twins.found("bribes(7, 25, 16)", x -> x.bribes(7, 25, 16), Due.PLACE, PACKED);
        Twins.found("bribes(7, 40, 1)", x -> x.bribes(7, 40, 1), Due.PLACE, PACKED);
        Twins.toldOfRow("bribes(7, 24, 16)", x -> x.bribes(7, 24, 16), 0, PACKED);
    }

    private static void sorts() {
        Due.sentence("SORTS: KINDS (bits 1 to 5) of one by which it is so.");
        Twins.toldOfRow("fits(2, 0, 2, 1, 0)", x -> x.fits(2, 0, 2, 1, 0), 8, MID);
        Twins.toldOfRow("fits(2, 0, 0, 6, 0)", x -> x.fits(2, 0, 0, 6, 0), 0, MID);
        Twins.toldOfRow("fits(2, 2, 39, 1, 0)", x -> x.fits(2, 2, 39, 1, 0), 48, PACKED);
        // On day 0, a sunday, all are off but an alibi; on day 2 all work.
        for (int kind = 1; kind <= 5; kind++) {
            ClueLeave x = Due.of("c2,0;" + ".tgvsa".charAt(kind) + "1,4,0;t3,4,0;");
            tell(x, 0, 0, 3, 2, 2, 2, 3, 2, 2, 2, 1);
            tell(x, 1, 0, 3, 1, 1, 1, 3, 1, 1, 3, 3, 1, 1, 1, 3, 1, 3, 1);
            tell(x, 2, 0, 3, 1, 1, 1, 3, 1, 1, 1, 3, 1, 1, 1, 3, 1, 1, 1);
            Due.due("off on day 0, all but an alibi", x.fits(0, 0, 0, 1, 0), 2 + 4 + 8 + 16);
            Due.due("leaves the other, a stain", x.fits(0, 0, 0, 8, 0), 16);
            Due.due("leaves the other, from a later place", x.fits(0, 0, 1, 3, 0), 32);
            Due.due("leaves the one, all three", x.fits(0, 2, 0, 4, 0), 2 + 4 + 8);
            Due.due("at work on the second sunday, no glove", x.fits(0, 2, 0, 16, 0), 2 + 8);
            Due.due("not at work on both sundays, a glove", x.fits(0, 1, 0, 16, 0), 4);
            Due.due("none of them", x.fits(0, 0, 0, 9, 0), 0);
            Due.due("of the other clue, that leaves both", x.fits(1, 0, 8, 1, 0), 0);
            Due.due("it is of its kind as before", x.kind(0), kind);
        }
    }

    private static void offs() {
        Due.sentence("OFFS: OFF of one (0 to EVERY less 1, bits) by which it is so.");
        Twins.toldOfRow("fits(2, 0, 2, 1, 1)", x -> x.fits(2, 0, 2, 1, 1), 7, MID);
        Twins.toldOfRow("fits(2, 0, 0, 6, 1)", x -> x.fits(2, 0, 0, 6, 1), 0, MID);
        Twins.toldOfRow("fits(2, 2, 39, 1, 1)", x -> x.fits(2, 2, 39, 1, 1), 0, PACKED);
        for (int every = 2; every <= 4; every++) {
            int all = (1 << every) - 1;
            for (int off = 0; off < every; off++) {
                ClueLeave x = Due.of("c2,1;t1," + every + "," + off + ";a3," + every + ",0;");
                x.bribe(1, 1);
                for (int day = 0; day < every; day++) {
                    tell(x, 0, 0, 3, 1);
                    Due.due("off on day " + day + " of " + every, x.fits(0, 0, 0, 1, 1), 1 << day);
                    Due.due("at work on day " + day + " of " + every, x.fits(0, 0, 1, 1, 1), all - (1 << day));
                    Due.due("off as before", x.clue(0, 2), off);
                    x.days(1);
                }
                Due.due("of an alibi, that is bribed, all or none", x.fits(1, 0, off == 0 ? 0 : 1, 1, 1), all);
            }
        }
    }

    private static void fitsRefused() {
        Due.sentence("fits: BAD: CLUE, ROW, n, what; NULL; PLACE.");
        Twins.refused("fits(0, 0, 0, 1, 0)", x -> x.fits(0, 0, 0, 1, 0), Due.BAD, NEW, BARE);
        for (int c : NO_CLUES) {
            Twins.refused("fits(" + c + ", 0, 0, 1, 0)", x -> x.fits(c, 0, 0, 1, 0), Due.BAD, NEW, BARE, MID, PACKED);
        }
        for (int row : NO_ROWS) {
            Twins.refused("fits(0, " + row + ", 0, 1, 1)", x -> x.fits(0, row, 0, 1, 1), Due.BAD, NEW, MID, PACKED);
        }
        for (int n : NO_DAYS) {
            Twins.refused("fits(0, 0, 0, " + n + ", 0)", x -> x.fits(0, 0, 0, n, 0), Due.BAD, NEW, MID, PACKED);
        }
        for (int what : new int[] {MIN_VALUE, -1, 2, 3, MAX_VALUE}) {
            Twins.refused("fits(0, 0, 0, 1, " + what + ")", x -> x.fits(0, 0, 0, 1, what), Due.BAD, NEW, MID, PACKED);
        }
        for (int i : new int[] {MIN_VALUE, -1, 0, 40, MAX_VALUE}) {
            Twins.found("fits(0, 3, " + i + ", 1, 0)", x -> x.fits(0, 3, i, 1, 0), Due.NULL, MID);
            Twins.found("fits(5, 7, " + i + ", 16, 1)", x -> x.fits(5, 7, i, 16, 1), Due.NULL, MID);
        }
    }

    private static void fitsInOrder() {
        Due.sentence("Refusals: BAD, then FINDINGS, of several the first in time (fits)");
        Twins.refused("fits(6, 3, -1, 1, 0)", x -> x.fits(6, 3, -1, 1, 0), Due.BAD, MID);
        Twins.refused("fits(0, 3, -1, 0, 0)", x -> x.fits(0, 3, -1, 0, 0), Due.BAD, MID);
        Twins.refused("fits(0, 3, -1, 17, 0)", x -> x.fits(0, 3, -1, 17, 0), Due.BAD, MID);
        Twins.refused("fits(0, 3, -1, 1, 2)", x -> x.fits(0, 3, -1, 1, 2), Due.BAD, MID);
        Twins.refused("fits(0, 2, 9, 1, -1)", x -> x.fits(0, 2, 9, 1, -1), Due.BAD, MID);
        Twins.found("fits(0, 3, -1, 1, 0)", x -> x.fits(0, 3, -1, 1, 0), Due.NULL, MID);
    }

    private static void fitsBeyond() {
        Due.sentence("fits: n ITEMS of a ROW from i on: PLACE");
        for (int[] b : BEYOND) {
            for (int what = 0; what <= 1; what++) {
                int asked = what;
                String call = "fits(5, " + b[0] + ", " + b[1] + ", " + b[2] + ", " + what + ")";
                Twins.found(call, x -> x.fits(5, b[0], b[1], b[2], asked), Due.PLACE, MID);
            }
        }
        for (int[] w : WITHIN) {
            String call = "fits(5, " + w[0] + ", " + w[1] + ", " + w[2] + ", 1)";
            // Of MID on day 3 suspect 2 alone is left, clue 5 or not.
            Twins.toldOfRow(call, x -> x.fits(5, w[0], w[1], w[2], 1), 0, MID);
        }
        Twins.toldOfRow("fits(5, 0, 2, 1, 1)", x -> x.fits(5, 0, 2, 1, 1), 15, MID);
        Twins.found("fits(5, 7, 25, 16, 0)", x -> x.fits(5, 7, 25, 16, 0), Due.PLACE, PACKED);
    }

    private static void lastDay() {
        Due.sentence("n DAYS, this one first: behind DAY 999, too");
        ClueLeave x = Due.of(Due.PAIR);
        for (int i = 0; i < 41; i++) {
            x.days(24);
        }
        x.days(15);
        tell(x, 0, 2, left(999, 16));
        Due.due("bribes(0, 0, 16) on day 999", x.bribes(0, 0, 16), 64);
        Due.due("offs on day 999", x.fits(1, 0, 0, 16, 1), 2);
        Due.due("sorts on day 999", x.fits(0, 0, 0, 16, 0) & 0b110010, 2);
    }

    private static void images() {
        Due.sentence("An IMAGE (0, 1) is kept of the CITY: 1.");
        for (int k = 0; k <= 1; k++) {
            int kept = k;
            ClueLeave x = PACKED.made();
            Due.due("image(" + k + ")", x.image(k), 1);
            Due.due("status() stays", x.status(), 3);
            Due.due("restore(" + k + ")", x.restore(k), 1);
            Due.due("count(3)", x.count(3), 999);
            Due.due("restore of the other", x.restore(1 - k), 1);
            Due.due("count(3) of the other", x.count(3), k == 0 ? 999 : 0);
            ClueLeave y = Due.of("c2,0;");
            Due.due("image(" + k + ") of no clues", y.image(k), 1);
            Due.due("the other was not kept", y.restore(1 - k), Due.STATE);
            Due.read(y, Due.SIX);
            Due.due("restore(" + k + ")", y.restore(k), 1);
            Due.due("no clue", y.count(1), 0);
            Due.due("two suspects", y.count(2), 2);
            // An image that is kept of the same city a second time is the same.
            Twins.alike("image(" + k + ") again", () -> keptTwice(kept, 1), () -> keptTwice(kept, 2));
        }
    }

    private static ClueLeave keptTwice(int k, int times) {
        ClueLeave x = MID.made();
        for (int i = 0; i < times; i++) {
            x.image(k);
        }
        return x;
    }

    private static void imagesRefused() {
        Due.sentence("image: BAD; STATE: no CITY.");
        for (int k : NO_IMAGES) {
            Twins.refused("image(" + k + ")", x -> x.image(k), Due.BAD, NEW, BARE, MID, PACKED);
        }
        Twins.refused("image(0)", x -> x.image(0), Due.STATE, NEW);
        Twins.refused("image(1)", x -> x.image(1), Due.STATE, NEW);
        ClueLeave x = new ClueLeave();
        x.image(0);
        Due.due("a refused image is none", x.restore(0), Due.STATE);
        Due.read(x, "c2");
        Due.due("image(0) behind a fault", x.image(0), Due.STATE);
    }

    private static void restored() {
        Due.sentence("The CITY is as an IMAGE kept it (no ACT can be undone then): 1.");
        ClueLeave x = PACKED.made();
        x.learn(0, 31);
        x.bribe(1, 1);
        x.shift(2, 3);
        Due.due("restore(0)", x.restore(0), 1);
        int[] due = {8, 6, 5, 0, 3, 0, 0, 100};
        for (int what = 0; what <= 7; what++) {
            Due.due("count(" + what + ")", x.count(what), due[what]);
        }
        Due.due("undo()", x.undo(), Due.STATE);
        Due.due("tells of 0", x.clue(0, 0), 7);
        Due.due("off of 2", x.clue(2, 2), 2);
        Due.due("status() stays", x.status(), 3);
        Due.due("the trace stays", x.trace(5), 20);
        Due.due("fault() stays", x.fault(), 0);
        x.days(24);
        Due.due("restore(1)", x.restore(1), 1);
        Due.due("count(3)", x.count(3), 999);
        Due.due("count(6)", x.count(6), 0);
        Due.due("days(1) beyond day 999", x.days(1), Due.FULL);
        Due.due("undo()", x.undo(), Due.STATE);
        ClueLeave y = MID.made();
        y.image(1);
        y.undo();
        Due.due("count(6)", y.count(6), 6);
        Due.due("restore(1)", y.restore(1), 1);
        Due.due("who was bribed is", y.count(5), 4);
        Due.due("what was learned is", y.clue(1, 0), 5);
        Due.due("off as it was shifted", y.clue(5, 2), 0);
        Due.due("day 3", y.count(3), 3);
        Due.due("undo()", y.undo(), Due.STATE);
        Due.due("an act behind it", y.bribe(2, 0), 0);
        Due.due("can be undone alone", y.undo(), 0);
        Due.due("to what the image kept", y.count(5), 4);
    }

    private static void restoreRefused() {
        Due.sentence("restore: BAD; STATE: none was kept.");
        for (int k : NO_IMAGES) {
            Twins.refused("restore(" + k + ")", x -> x.restore(k), Due.BAD, NEW, BARE, MID, PACKED);
        }
        Twins.refused("restore(0)", x -> x.restore(0), Due.STATE, NEW, BARE);
        Twins.refused("restore(1)", x -> x.restore(1), Due.STATE, NEW, BARE, MID);
    }

    private static void imagesApart() {
        Due.sentence("IMAGES stay, whatever the CITY becomes");
        ClueLeave x = Due.of(Due.SIX);
        x.image(0);
        x.learn(5, 1);
        x.shift(5, 0);
        x.bribe(5, 1);
        x.days(24);
        x.image(1);
        for (int i = 0; i < 3; i++) {
            x.undo();
        }
        Due.due("restore(0)", x.restore(0), 1);
        Due.due("tells of 5", x.clue(5, 0), 12);
        Due.due("off of 5", x.clue(5, 2), 3);
        Due.due("bribed", x.count(5), 0);
        x.learn(5, 2);
        x.days(3);
        Due.due("restore(1)", x.restore(1), 1);
        Due.due("tells of 5", x.clue(5, 0), 1);
        Due.due("off of 5", x.clue(5, 2), 0);
        Due.due("bribed", x.count(5), 32);
        Due.due("day 24", x.count(3), 24);
        x.bribe(0, 1);
        Due.due("restore(0) again", x.restore(0), 1);
        Due.due("tells of 5", x.clue(5, 0), 12);
        Due.due("day 0", x.count(3), 0);
        Due.read(x, "c2,0;t1,2,0;");
        Due.due("image(0) of a smaller city", x.image(0), 1);
        Due.due("restore(1) behind a text", x.restore(1), 1);
        Due.due("six clues", x.count(1), 6);
        Due.due("restore(0) of the smaller city", x.restore(0), 1);
        Due.due("one clue", x.count(1), 1);
        Due.due("no second", x.kind(1), Due.BAD);
        Due.due("the other image is as it was", x.restore(1), 1);
        Due.due("bribed", x.count(5), 32);
    }
}
