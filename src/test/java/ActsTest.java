/** Promises 9 to 14: days, bribes, lessons, days off, all undone; a clue. */
public final class ActsTest {
    public static void main(String[] args) {
        daysGoBy();
        lastDay();
        bribes();
        lessons();
        shifts();
        undone();
        forgotten();
        clues();
        work();
        Due.end("ActsTest");
    }

    private static void daysGoBy() {
        ClueLeave x = new ClueLeave();
        Due.due("9: STATE ahead of BAD", x.days(0), Due.STATE);
        Due.read(x, Due.PAIR);
        Due.due("9: days(0)", x.days(0), Due.BAD);
        Due.due("9: days(25)", x.days(25), Due.BAD);
        Due.due("9: days(-1)", x.days(-1), Due.BAD);
        int[] left = {3, 6, 2, 7, 2, 6};
        for (int i = 0; i < 6; i++) {
            Due.due("9: days(1), " + i, x.days(1), left[i]);
        }
        Due.due("9: days(3)", x.days(3), 2);
        Due.due("9: count(3)", x.count(3), 9);
        Due.due("9: an act each", x.count(6), 9);
        Due.due("9: days(24)", x.days(24), 2);
        Due.due("9: 24 acts at most", x.count(6), 24);
    }

    private static void lastDay() {
        ClueLeave x = Due.of(Due.PAIR);
        for (int i = 0; i < 41; i++) {
            x.days(24);
        }
        Due.due("9: day 984", x.count(3), 984);
        Due.due("9: beyond 999", x.days(16), Due.FULL);
        Due.due("9: beyond 999", x.days(24), Due.FULL);
        Due.due("9: BAD ahead of FULL", x.days(25), Due.BAD);
        Due.due("9: up to 999", x.days(15), 2);
        Due.due("9: day 999", x.count(3), 999);
        Due.due("9: days(1)", x.days(1), Due.FULL);
        Due.due("15: behind day 999", x.ahead(99, 0), 6);
        Due.due("16: behind day 999", x.first(0), 0);
        Due.due("13: undo()", x.undo(), 23);
        Due.due("9: day 998", x.count(3), 998);
        Due.due("9: days(1)", x.days(1), 2);
    }

    private static void bribes() {
        ClueLeave x = new ClueLeave();
        Due.due("10: no city", x.bribe(0, 1), Due.BAD);
        Due.read(x, Due.PAIR);
        Due.due("10: bribe(2, 1)", x.bribe(2, 1), Due.BAD);
        Due.due("10: bribe(-1, 1)", x.bribe(-1, 1), Due.BAD);
        Due.due("10: bribe(0, 2)", x.bribe(0, 2), Due.BAD);
        Due.due("10: bribe(0, -1)", x.bribe(0, -1), Due.BAD);
        Due.due("10: it is not", x.bribe(0, 0), Due.STATE);
        Due.due("10: no act", x.count(6), 0);
        Due.due("10: bribe(1, 1)", x.bribe(1, 1), 2);
        Due.due("10: bribe(0, 1)", x.bribe(0, 1), 3);
        Due.due("10: it is", x.bribe(0, 1), Due.STATE);
        Due.due("10: which are", x.count(5), 3);
        Due.due("2: a bribed thread leaves all", x.clue(0, 5), 7);
        Due.due("2: a bribed voice leaves the others", x.clue(1, 5), 1);
        Due.due("2: both at work", x.ahead(3, 0), 1);
        Due.due("10: bribe(1, 0)", x.bribe(1, 0), 1);
        Due.due("10: acts", x.count(6), 3);
        Due.due("13: undo()", x.undo(), 2);
        Due.due("13: bribed again", x.count(5), 3);
        Due.due("13: undo()", x.undo(), 1);
        Due.due("13: no more bribed", x.count(5), 2);
    }

    private static void lessons() {
        ClueLeave x = new ClueLeave();
        Due.due("11: no city", x.learn(0, 1), Due.BAD);
        Due.read(x, Due.PAIR);
        Due.due("11: learn(2, 1)", x.learn(2, 1), Due.BAD);
        Due.due("11: learn(-1, 1)", x.learn(-1, 1), Due.BAD);
        Due.due("11: none", x.learn(0, 0), Due.BAD);
        Due.due("11: learn(0, -1)", x.learn(0, -1), Due.BAD);
        Due.due("11: learn(0, 8)", x.learn(0, 8), Due.BAD);
        Due.due("11: learn(0, 7)", x.learn(0, 7), 3);
        Due.due("11: learn(0, 4)", x.learn(0, 4), 7);
        Due.due("11: learn(0, 4), nothing becomes another", x.learn(0, 4), 4);
        Due.due("11: acts", x.count(6), 3);
        Due.due("11: tells", x.clue(0, 0), 4);
        Due.due("11: left", x.ahead(1, 0), 4);
        Due.due("13: undo()", x.undo(), 2);
        Due.due("13: tells", x.clue(0, 0), 4);
        Due.due("13: undo()", x.undo(), 1);
        Due.due("13: tells", x.clue(0, 0), 7);
        Due.due("13: undo()", x.undo(), 0);
        Due.due("13: tells", x.clue(0, 0), 3);
        Due.due("13: undo()", x.undo(), Due.STATE);
    }

    private static void shifts() {
        ClueLeave x = new ClueLeave();
        Due.due("12: no city", x.shift(0, 0), Due.BAD);
        Due.read(x, Due.PAIR);
        Due.due("12: shift(2, 0)", x.shift(2, 0), Due.BAD);
        Due.due("12: shift(-1, 0)", x.shift(-1, 0), Due.BAD);
        Due.due("12: shift(0, -1)", x.shift(0, -1), Due.BAD);
        Due.due("12: shift(0, 2)", x.shift(0, 2), Due.BAD);
        Due.due("12: shift(1, 3)", x.shift(1, 3), Due.BAD);
        Due.due("12: shift(1, 2)", x.shift(1, 2), 1);
        Due.due("12: off", x.clue(1, 2), 2);
        Due.due("12: left", x.ahead(2, 0), 7);
        Due.due("12: shift(1, 2)", x.shift(1, 2), 2);
        Due.due("12: acts", x.count(6), 2);
        Due.due("13: undo()", x.undo(), 1);
        Due.due("13: off", x.clue(1, 2), 2);
        Due.due("13: undo()", x.undo(), 0);
        Due.due("13: off", x.clue(1, 2), 1);
    }

    private static void undone() {
        ClueLeave x = new ClueLeave();
        Due.due("13: no city", x.undo(), Due.STATE);
        Due.read(x, Due.SIX);
        x.days(2);
        x.bribe(4, 1);
        x.learn(3, 9);
        x.shift(2, 0);
        x.days(1);
        Due.due("13: a day", x.undo(), 5);
        Due.due("13: day 2", x.count(3), 2);
        Due.due("13: a day off", x.undo(), 4);
        Due.due("13: off of 2", x.clue(2, 2), 2);
        Due.due("13: a lesson", x.undo(), 3);
        Due.due("13: 3 tells", x.clue(3, 0), 2);
        Due.due("13: a bribe", x.undo(), 2);
        Due.due("13: nothing is bribed", x.count(5), 0);
        Due.due("13: a day", x.undo(), 1);
        Due.due("13: day 1", x.count(3), 1);
        Due.due("13: a day", x.undo(), 0);
        Due.due("13: day 0", x.count(3), 0);
        Due.due("13: none", x.undo(), Due.STATE);
        Due.due("13: count(6)", x.count(6), 0);
    }

    private static void forgotten() {
        ClueLeave x = Due.of(Due.PAIR);
        x.bribe(0, 1);
        x.learn(1, 1);
        x.days(22);
        Due.due("2: 24 acts", x.count(6), 24);
        x.shift(0, 1);
        Due.due("2: 24 acts are kept", x.count(6), 24);
        for (int i = 23; i >= 0; i--) {
            Due.due("13: undo() to " + i, x.undo(), i);
        }
        Due.due("13: the oldest is forgotten", x.undo(), Due.STATE);
        Due.due("13: the lesson is undone", x.clue(1, 0), 6);
        Due.due("13: the bribe stays", x.count(5), 1);
        Due.due("13: the day off is undone", x.clue(0, 2), 0);
        Due.due("13: day 0", x.count(3), 0);
    }

    private static void clues() {
        ClueLeave x = new ClueLeave();
        Due.due("14: no city", x.clue(0, 0), Due.BAD);
        Due.read(x, Due.SIX);
        Due.due("14: clue(6, 0)", x.clue(6, 0), Due.BAD);
        Due.due("14: clue(-1, 0)", x.clue(-1, 0), Due.BAD);
        Due.due("14: clue(0, 6)", x.clue(0, 6), Due.BAD);
        Due.due("14: clue(0, -1)", x.clue(0, -1), Due.BAD);
        int[] tells = {7, 22, 25, 2, 16, 12};
        int[] every = {2, 3, 4, 2, 3, 4};
        int[] off = {1, 0, 2, 0, 1, 3};
        int[] leaves = {7, 22, 25, 29, 15, 12};
        int[] bought = {31, 31, 6, 31, 31, 31};
        for (int c = 0; c < 6; c++) {
            Due.due("14: tells " + c, x.clue(c, 0), tells[c]);
            Due.due("14: every " + c, x.clue(c, 1), every[c]);
            Due.due("14: off " + c, x.clue(c, 2), off[c]);
            Due.due("14: bribed " + c, x.clue(c, 3), 0);
            Due.due("14: leaves " + c, x.clue(c, 5), leaves[c]);
            x.bribe(c, 1);
            Due.due("14: bribed " + c, x.clue(c, 3), 1);
            Due.due("14: leaves, bribed " + c, x.clue(c, 5), bought[c]);
        }
    }

    /** Of SIX by hand, day by day: who is at work. */
    private static void work() {
        ClueLeave x = Due.of(Due.SIX);
        int[] workers = {53, 62, 51, 28, 55, 62, 49, 30, 55, 60, 49};
        for (int d = 0; d < workers.length; d++) {
            for (int c = 0; c < 6; c++) {
                Due.due("14: at work " + c + " on " + d, x.clue(c, 4), workers[d] >> c & 1);
            }
            Due.due("15: at work on " + d, x.ahead(0, 1), workers[d]);
            x.days(1);
        }
    }
}
