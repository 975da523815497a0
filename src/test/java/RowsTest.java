/** Promises 1 to 5, and what 32 tells of them. */
public final class RowsTest {
    public static void main(String[] args) {
        newObject();
        rows();
        sets();
        copies();
        drops();
        findingsChangeNothing();
        Due.end("RowsTest");
    }

    private static void newObject() {
        ClueLeave x = new ClueLeave();
        for (int what = 0; what <= 7; what++) {
            Due.due("1: count(" + what + ")", x.count(what), 0);
        }
        Due.due("1: fault()", x.fault(), 0);
        Due.due("1: status()", x.status(), 0);
        Due.due("1: trace(0)", x.trace(0), Due.NONE);
        Due.due("1: days(1)", x.days(1), Due.STATE);
        Due.due("1: restore(0)", x.restore(0), Due.STATE);
        for (int row = 0; row < 8; row++) {
            Due.due("1: drop(" + row + ")", x.drop(row), Due.NULL);
        }
    }

    private static void rows() {
        ClueLeave x = new ClueLeave();
        Due.due("2: row(0, 0, 0)", x.row(0, 0, 0), 0);
        Due.due("2: row(7, 2, 40)", x.row(7, 2, 40), 40);
        Due.due("2: count(0)", x.count(0), 2);
        Due.due("2: row(-1, 0, 1)", x.row(-1, 0, 1), Due.BAD);
        Due.due("2: row(8, 0, 1)", x.row(8, 0, 1), Due.BAD);
        Due.due("2: row(0, -1, 1)", x.row(0, -1, 1), Due.BAD);
        Due.due("2: row(0, 3, 1)", x.row(0, 3, 1), Due.BAD);
        Due.due("2: row(0, 0, 41)", x.row(0, 0, 41), Due.BAD);
        Due.due("2: row(8, 0, -1)", x.row(8, 0, -1), Due.BAD);
        Due.due("2: row(0, 3, -1)", x.row(0, 3, -1), Due.BAD);
        Due.due("2: status() of BAD", x.status(), 0);
        Due.due("2: row(0, 0, -1)", x.row(0, 0, -1), Due.SIZE);
        Due.due("2: status() of SIZE", x.status(), 4);
        Due.due("2: row(8, 0, 1)", x.row(8, 0, 1), Due.BAD);
        Due.due("2: status() stays", x.status(), 4);
        Due.due("2: row(0, 0, 3)", x.row(0, 0, 3), 3);
        Due.due("2: status()", x.status(), 0);
        Due.due("2: set(7, 39, 9)", x.set(7, 39, 9), 9);
        Due.due("2: row(7, 2, 40) anew", x.row(7, 2, 40), 40);
        Due.due("2: row(6, 2, 41)", x.row(6, 2, 41), Due.BAD);
        Due.due("2: row(6, 2, 1)", x.row(6, 2, 1), 1);
        Due.due("2: set(6, 0, 5)", x.set(6, 0, 5), 5);
        Due.due("2: copy of an item that is 0", x.copy(7, 39, 6, 0, 1), 1);
        ClueLeave y = Due.of("c2,0;t1,2,1;a1,2,0;");
        Due.due("2: items are 0", y.row(0, 0, 1), 1);
        Due.due("2: a new item tells nobody", y.fits(0, 0, 0, 1, 1), 1 << 1);
        y.set(0, 0, 2);
        Due.due("2: a told item tells", y.fits(0, 0, 0, 1, 1), 1);
        y.row(0, 0, 1);
        Due.due("2: in place of what is there", y.fits(0, 0, 0, 1, 1), 1 << 1);
    }

    private static void sets() {
        ClueLeave x = new ClueLeave();
        x.row(0, 0, 2);
        x.row(1, 1, 2);
        x.row(2, 2, 2);
        Due.due("3: set(0, 0, 127)", x.set(0, 0, 127), 127);
        Due.due("3: set(0, 0, 128)", x.set(0, 0, 128), -128);
        Due.due("3: set(0, 1, -129)", x.set(0, 1, -129), 127);
        Due.due("3: set(1, 0, 32768)", x.set(1, 0, 32768), -32768);
        Due.due("3: set(1, 1, 65541)", x.set(1, 1, 65541), 5);
        Due.due("3: set(2, 1, min)", x.set(2, 1, Integer.MIN_VALUE), Integer.MIN_VALUE);
        Due.due("3: set(2, 1, max)", x.set(2, 1, Integer.MAX_VALUE), Integer.MAX_VALUE);
        Due.due("3: set(8, 0, 1)", x.set(8, 0, 1), Due.BAD);
        Due.due("3: set(-1, 0, 1)", x.set(-1, 0, 1), Due.BAD);
        Due.due("3: set(3, -1, 1)", x.set(3, -1, 1), Due.NULL);
        Due.due("3: status()", x.status(), 1);
        Due.due("3: set(0, 2, 1)", x.set(0, 2, 1), Due.PLACE);
        Due.due("3: status()", x.status(), 2);
        Due.due("3: set(0, -1, 1)", x.set(0, -1, 1), Due.PLACE);
        Due.due("3: set(0, min, 1)", x.set(0, Integer.MIN_VALUE, 1), Due.PLACE);
        Due.due("3: set(0, max, 1)", x.set(0, Integer.MAX_VALUE, 1), Due.PLACE);
        Due.due("3: set(0, 1, 1)", x.set(0, 1, 1), 1);
        Due.due("3: status()", x.status(), 0);
    }

    private static void copies() {
        ClueLeave x = new ClueLeave();
        x.row(0, 0, 5);
        x.row(1, 1, 5);
        x.row(2, 0, 3);
        Due.due("4: copy(8, ..)", x.copy(8, 0, 0, 0, 1), Due.BAD);
        Due.due("4: copy(0, 0, -1, ..)", x.copy(0, 0, -1, 0, 1), Due.BAD);
        Due.due("4: copy(3, -1, 8, ..)", x.copy(3, -1, 8, 0, 1), Due.BAD);
        Due.due("4: copy of a missing row", x.copy(3, -1, 0, 0, 1), Due.NULL);
        Due.due("4: copy to a missing row", x.copy(0, -1, 3, 0, 1), Due.NULL);
        Due.due("4: STORE ahead of PLACE", x.copy(0, -1, 1, 0, 1), Due.STORE);
        Due.due("4: status()", x.status(), 5);
        Due.due("4: i below 0", x.copy(0, -1, 2, 0, 1), Due.PLACE);
        Due.due("4: j below 0", x.copy(0, 0, 2, -1, 1), Due.PLACE);
        Due.due("4: n below 0", x.copy(0, 1, 2, 1, -1), Due.PLACE);
        Due.due("4: n min", x.copy(0, 1, 2, 1, Integer.MIN_VALUE), Due.PLACE);
        Due.due("4: n max", x.copy(0, 1, 2, 1, Integer.MAX_VALUE), Due.PLACE);
        Due.due("4: i max, n max", x.copy(0, Integer.MAX_VALUE, 2, 1, Integer.MAX_VALUE), Due.PLACE);
        Due.due("4: beyond the end of a", x.copy(0, 4, 2, 0, 2), Due.PLACE);
        Due.due("4: beyond the end of b", x.copy(0, 0, 2, 2, 2), Due.PLACE);
        Due.due("4: none at both ends", x.copy(0, 5, 2, 3, 0), 0);
        Due.due("4: none beyond an end", x.copy(0, 6, 2, 3, 0), Due.PLACE);
        Due.due("4: status()", x.status(), 2);
        Due.due("4: all of it", x.copy(2, 0, 0, 2, 3), 3);
        Due.due("4: status()", x.status(), 0);
        overlapDown();
        overlapUp();
    }

    /** LEFT of PAIR on days 0 to 4 is 6 3 6 2 7: a copy is seen by what the row tells then. */
    private static void overlapDown() {
        ClueLeave x = Due.of(Due.PAIR);
        int[] shifted = {9, 6, 3, 6, 2};
        x.row(0, 0, 5);
        for (int i = 0; i < 5; i++) {
            x.set(0, i, shifted[i]);
        }
        Due.due("4: copy down in one row", x.copy(0, 1, 0, 0, 4), 4);
        Due.due("4: as they were ahead (down)", x.bribes(0, 0, 4), 64);
    }

    private static void overlapUp() {
        ClueLeave x = Due.of(Due.PAIR);
        int[] told = {6, 3, 6, 2, 9};
        x.row(0, 0, 5);
        for (int i = 0; i < 5; i++) {
            x.set(0, i, told[i]);
        }
        Due.due("4: copy up in one row", x.copy(0, 0, 0, 1, 4), 4);
        Due.due("4: as they were ahead (up)", x.bribes(0, 1, 4), 64);
        x.row(1, 0, 4);
        Due.due("4: copy to another row", x.copy(0, 1, 1, 0, 4), 4);
        Due.due("4: the other row has them", x.bribes(1, 0, 4), 64);
        Due.due("4: the first row keeps them", x.bribes(0, 1, 4), 64);
    }

    private static void drops() {
        ClueLeave x = new ClueLeave();
        x.row(3, 1, 17);
        x.row(4, 1, 0);
        Due.due("5: drop(8)", x.drop(8), Due.BAD);
        Due.due("5: drop(-1)", x.drop(-1), Due.BAD);
        Due.due("5: drop(3)", x.drop(3), 17);
        Due.due("5: count(0)", x.count(0), 1);
        Due.due("5: drop(3) again", x.drop(3), Due.NULL);
        Due.due("5: status()", x.status(), 1);
        Due.due("5: drop(4)", x.drop(4), 0);
        Due.due("5: status()", x.status(), 0);
        Due.due("5: set(3, 0, 0)", x.set(3, 0, 0), Due.NULL);
    }

    private static void findingsChangeNothing() {
        ClueLeave x = Due.of(Due.PAIR);
        x.row(0, 0, 4);
        int[] told = {6, 3, 6, 2};
        for (int i = 0; i < 4; i++) {
            x.set(0, i, told[i]);
        }
        x.row(0, 0, -1);
        x.row(0, 2, 41);
        x.set(0, 4, 1);
        x.copy(0, 0, 0, 1, 4);
        Due.due("32: the row is as it was", x.bribes(0, 0, 4), 64);
        x.set(0, 4, 1);
        x.count(8);
        x.ahead(0, 0);
        x.days(0);
        Due.due("32: other calls let it stay", x.status(), 2);
        x.as(0, 1);
        Due.due("32: as() that has none", x.status(), 0);
    }
}
