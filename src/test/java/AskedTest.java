/** Promises 25 to 32: images, kinds, asks, the trace, counts, status. */
public final class AskedTest {
    public static void main(String[] args) {
        images();
        imagesOfCities();
        kinds();
        asks();
        asksOfOthers();
        askedBad();
        counts();
        statuses();
        constants();
        Due.end("AskedTest");
    }

    private static void images() {
        ClueLeave x = new ClueLeave();
        Due.due("25: image(2)", x.image(2), Due.BAD);
        Due.due("25: image(-1)", x.image(-1), Due.BAD);
        Due.due("25: no city", x.image(0), Due.STATE);
        Due.due("26: restore(2)", x.restore(2), Due.BAD);
        Due.due("26: restore(-1)", x.restore(-1), Due.BAD);
        Due.due("26: none was kept", x.restore(1), Due.STATE);
        Due.read(x, Due.PAIR);
        x.days(2);
        x.bribe(1, 1);
        Due.due("25: image(0)", x.image(0), 1);
        Due.due("25: acts stay", x.count(6), 3);
        Due.due("26: none was kept", x.restore(1), Due.STATE);
        x.learn(0, 4);
        x.shift(1, 0);
        x.bribe(1, 0);
        x.days(5);
        Due.due("25: image(1)", x.image(1), 1);
        Due.due("26: restore(0)", x.restore(0), 1);
        Due.due("26: the day", x.count(3), 2);
        Due.due("26: bribes", x.count(5), 2);
        Due.due("26: tells", x.clue(0, 0), 3);
        Due.due("26: off", x.clue(1, 2), 1);
        Due.due("26: no act", x.undo(), Due.STATE);
        x.learn(0, 1);
        Due.due("26: again", x.restore(0), 1);
        Due.due("26: tells", x.clue(0, 0), 3);
        Due.due("26: restore(1)", x.restore(1), 1);
        Due.due("26: the day", x.count(3), 7);
        Due.due("26: tells", x.clue(0, 0), 4);
        Due.due("25: image(0) anew", x.image(0), 1);
        x.days(1);
        x.restore(0);
        Due.due("26: the day", x.count(3), 7);
    }

    private static void imagesOfCities() {
        ClueLeave x = Due.of(Due.SIX);
        x.image(0);
        Due.read(x, "c2,6;");
        Due.due("26: restore(0)", x.restore(0), 1);
        Due.due("26: clues", x.count(1), 6);
        Due.due("26: suspects", x.count(2), 5);
        Due.due("26: sunday", x.count(4), 3);
        Due.due("26: kind", x.kind(4), 5);
        Due.due("26: every", x.clue(2, 1), 4);
        Due.due("26: left", x.ahead(2, 0), 4);
    }

    private static void kinds() {
        ClueLeave x = new ClueLeave();
        Due.due("27: no city", x.kind(0), Due.BAD);
        Due.due("28: no city", x.as(0, 0), Due.BAD);
        Due.read(x, "c5,3;t7,2,1;g22,3,0;v25,4,2;s2,2,0;a16,3,1;");
        boolean[][] is = {
            {true, true, false, false, false, false},
            {true, true, true, false, false, false},
            {true, true, false, true, false, false},
            {true, false, false, false, true, false},
            {true, false, false, false, true, true},
        };
        for (int c = 0; c < 5; c++) {
            Due.due("27: kind(" + c + ")", x.kind(c), c + 1);
            for (int k = 0; k < 6; k++) {
                Due.due("28: as(" + c + ", " + k + ")", x.as(c, k), is[c][k] ? c : Due.KIND);
                Due.due("32: status()", x.status(), is[c][k] ? 0 : 3);
            }
        }
        x.as(0, 5);
        Due.due("27: kind(5)", x.kind(5), Due.BAD);
        Due.due("27: kind(-1)", x.kind(-1), Due.BAD);
        Due.due("28: as(5, 0)", x.as(5, 0), Due.BAD);
        Due.due("28: as(-1, 0)", x.as(-1, 0), Due.BAD);
        Due.due("28: as(0, 6)", x.as(0, 6), Due.BAD);
        Due.due("28: as(0, -1)", x.as(0, -1), Due.BAD);
        Due.due("32: status() stays", x.status(), 3);
    }

    private static void ask(ClueLeave x, int clue, int what, int answer, int... trace) {
        String call = "ask(" + clue + ", " + what + ")";
        Due.due("29: " + call, x.ask(clue, what), answer);
        for (int i = 0; i < 16; i++) {
            Due.due("30: " + call + ", trace(" + i + ")", x.trace(i), i < trace.length ? trace[i] : Due.NONE);
        }
    }

    private static void asks() {
        ClueLeave x = Due.of(Due.SIX);
        ask(x, 0, 0, 7 + 1, 11, 10, 21, 20);
        ask(x, 0, 1, 1, 21, 20);
        ask(x, 1, 0, -(22 + 2), 12, 11, 10, 24, 21, 20);
        ask(x, 1, 1, 2, 24, 21, 20);
        ask(x, 2, 0, 25 + 2 + 2 - 1000, 11, 10, 22, 21, 20);
        ask(x, 2, 1, 2 + 2 - 1000, 22, 21, 20);
        ask(x, 3, 0, 2 - 100, 13, 10);
        ask(x, 3, 1, 3 - (2 - 100), 23, 20, 13, 10);
        ask(x, 4, 0, 2 * (16 - 100), 14, 13, 10);
        ask(x, 4, 1, 4 + 168, 23, 20, 14, 13, 10);
        ask(x, 5, 0, 12 + 5 + 3, 11, 10, 21, 20);
        ask(x, 5, 1, 8, 21, 20);
        Due.due("30: trace(-1)", x.trace(-1), Due.NONE);
        Due.due("30: trace(16)", x.trace(16), Due.NONE);
        Due.due("30: trace(max)", x.trace(Integer.MAX_VALUE), Due.NONE);
    }

    private static void asksOfOthers() {
        ClueLeave x = Due.of("c6,0;a63,4,3;g63,4,3;");
        x.learn(0, 5);
        x.shift(1, 2);
        ask(x, 0, 0, 2 * (5 - 100), 14, 13, 10);
        ask(x, 0, 1, 190, 23, 20, 14, 13, 10);
        ask(x, 1, 0, -(63 + 6), 12, 11, 10, 24, 21, 20);
        ask(x, 1, 1, 6, 24, 21, 20);
        x.undo();
        ask(x, 1, 1, 8, 24, 21, 20);
    }

    private static void askedBad() {
        ClueLeave x = new ClueLeave();
        Due.due("29: no city", x.ask(0, 0), Due.BAD);
        Due.read(x, Due.SIX);
        x.ask(3, 0);
        Due.due("29: ask(6, 0)", x.ask(6, 0), Due.BAD);
        Due.due("29: ask(-1, 0)", x.ask(-1, 0), Due.BAD);
        Due.due("29: ask(0, 2)", x.ask(0, 2), Due.BAD);
        Due.due("29: ask(0, -1)", x.ask(0, -1), Due.BAD);
        Due.due("29: the trace stays", x.trace(0), 13);
        Due.due("29: the trace stays", x.trace(1), 10);
        Due.due("29: the trace stays", x.trace(2), Due.NONE);
        x.restore(0);
        x.image(0);
        x.restore(0);
        Due.due("30: restore() lets it stay", x.trace(0), 13);
    }

    private static void counts() {
        ClueLeave x = Due.of(Due.SIX);
        x.row(0, 0, 0);
        x.row(1, 2, 9);
        x.row(1, 1, 9);
        x.days(4);
        x.bribe(3, 1);
        x.bribe(5, 1);
        x.feed(1);
        int[] due = {2, 6, 5, 4, 3, 40, 6, 1};
        for (int i = 0; i < 8; i++) {
            Due.due("31: count(" + i + ")", x.count(i), due[i]);
        }
        Due.due("31: count(8)", x.count(8), Due.BAD);
        Due.due("31: count(-1)", x.count(-1), Due.BAD);
        Due.due("31: count(min)", x.count(Integer.MIN_VALUE), Due.BAD);
    }

    private static void statuses() {
        ClueLeave x = new ClueLeave();
        Due.due("32: none yet", x.status(), 0);
        x.row(0, 0, -9);
        x.bribes(0, 0, 1);
        Due.due("32: STATE lets it stay", x.status(), 4);
        Due.read(x, "c9");
        Due.due("32: city() lets it stay", x.status(), 4);
        Due.read(x, Due.PAIR);
        x.as(0, 4);
        Due.due("32: of as()", x.status(), 3);
        x.kind(0);
        x.ask(0, 0);
        x.undo();
        x.restore(0);
        Due.due("32: others let it stay", x.status(), 3);
        x.row(9, 0, 0);
        x.set(9, 0, 0);
        x.copy(0, 0, 9, 0, 0);
        x.drop(9);
        x.as(9, 0);
        x.fits(9, 0, 0, 1, 0);
        x.bribes(9, 0, 1);
        Due.due("32: BAD lets it stay", x.status(), 3);
        x.row(0, 0, 1);
        Due.due("32: row()", x.status(), 0);
        x.row(1, 1, 1);
        x.copy(0, 0, 1, 0, 1);
        Due.due("32: copy()", x.status(), 5);
        x.set(0, 0, 1);
        Due.due("32: set()", x.status(), 0);
        x.drop(2);
        Due.due("32: drop()", x.status(), 1);
        x.drop(1);
        Due.due("32: drop()", x.status(), 0);
        x.fits(0, 0, 0, 2, 0);
        Due.due("32: fits()", x.status(), 2);
        x.copy(0, 0, 0, 0, 1);
        Due.due("32: copy()", x.status(), 0);
    }

    private static void constants() {
        Due.due("NONE", ClueLeave.NONE, -1000000);
        Due.due("BAD", ClueLeave.BAD, -1000001);
        Due.due("STATE", ClueLeave.STATE, -1000002);
        Due.due("FULL", ClueLeave.FULL, -1000003);
    }
}
