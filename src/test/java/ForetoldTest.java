/** Promises 15 to 24: what is foretold, by hand for PAIR and for small cities. */
public final class ForetoldTest {
    public static void main(String[] args) {
        ahead();
        first();
        firstOfFar();
        rotas();
        rotaFromToday();
        when();
        enough();
        clash();
        bribes();
        sorts();
        offs();
        findings();
        strikes();
        cases();
        nothingChanges();
        Due.end("ForetoldTest");
    }

    private static void ahead() {
        ClueLeave x = new ClueLeave();
        Due.due("15: STATE ahead of BAD", x.ahead(-1, 9), Due.STATE);
        Due.read(x, Due.PAIR);
        int[] left = {6, 3, 6, 2, 7, 2};
        int[] workers = {2, 1, 2, 3, 0, 3};
        int[] sure = {Due.NONE, Due.NONE, Due.NONE, 1, Due.NONE, 1};
        for (int d = 0; d <= 99; d++) {
            Due.due("15: left behind " + d, x.ahead(d, 0), left[d % 6]);
            Due.due("15: workers behind " + d, x.ahead(d, 1), workers[d % 6]);
            Due.due("15: sure behind " + d, x.ahead(d, 2), sure[d % 6]);
        }
        Due.due("15: ahead(100, 0)", x.ahead(100, 0), Due.BAD);
        Due.due("15: ahead(-1, 0)", x.ahead(-1, 0), Due.BAD);
        Due.due("15: ahead(0, 3)", x.ahead(0, 3), Due.BAD);
        Due.due("15: ahead(0, -1)", x.ahead(0, -1), Due.BAD);
        x.days(2);
        Due.due("15: from day 2 on", x.ahead(1, 0), 2);
        Due.due("15: from day 2 on", x.ahead(1, 1), 3);
        ClueLeave y = Due.of("c6,0;a31,2,0;");
        Due.due("15: the last one", y.ahead(0, 2), 5);
        ClueLeave z = Due.of("c2,0;t1,2,1;a1,2,0;");
        Due.due("15: nobody is left", z.ahead(0, 2), Due.NONE);
    }

    private static void first() {
        ClueLeave x = new ClueLeave();
        Due.due("16: STATE ahead of BAD", x.first(2), Due.STATE);
        Due.read(x, Due.PAIR);
        Due.due("16: first(2)", x.first(2), Due.BAD);
        Due.due("16: first(-1)", x.first(-1), Due.BAD);
        Due.due("16: first(0)", x.first(0), 3);
        Due.due("16: first(1)", x.first(1), Due.NONE);
        x.days(3);
        Due.due("16: first(0) on day 3", x.first(0), 0);
        x.days(1);
        Due.due("16: first(0) on day 4", x.first(0), 1);
        x.learn(1, 4);
        Due.due("16: mean", x.first(1), 1);
        Due.due("16: sure, by the voice alone", x.first(0), 2);
    }

    /** Gloves are off on sundays: two that are off in turn leave nobody but on few days. */
    private static void firstOfFar() {
        ClueLeave x = Due.of("c2,0;g1,4,0;g2,4,1;");
        Due.due("16: sure", x.first(0), 1);
        Due.due("16: mean", x.first(1), 2);
        ClueLeave y = Due.of("c2,0;t3,2,0;");
        Due.due("16: never sure", y.first(0), Due.NONE);
        Due.due("16: never mean", y.first(1), Due.NONE);
    }

    private static void rotas() {
        ClueLeave x = new ClueLeave();
        Due.due("17: STATE ahead of BAD", x.rota(0, 9), Due.STATE);
        Due.read(x, Due.PAIR);
        Due.due("17: rota(0, -1)", x.rota(0, -1), Due.BAD);
        Due.due("17: rota(15, -1)", x.rota(15, -1), Due.BAD);
        Due.due("17: rota(1, -2)", x.rota(1, -2), Due.BAD);
        Due.due("17: rota(1, 6)", x.rota(1, 6), Due.BAD);
        Due.due("17: rota(6, -1)", x.rota(6, -1), 2);
        Due.due("17: rota(6, 0)", x.rota(6, 0), 0);
        Due.due("17: rota(6, 1)", x.rota(6, 1), 0);
        Due.due("17: rota(6, 2)", x.rota(6, 2), Due.NONE);
        Due.due("17: rota(6, 5)", x.rota(6, 5), Due.NONE);
        Due.due("17: rota(1, -1)", x.rota(1, -1), 1);
        Due.due("17: rota(1, 0)", x.rota(1, 0), 1);
        Due.due("17: rota(1, 1)", x.rota(1, 1), 1);
        Due.due("17: rota(2, -1)", x.rota(2, -1), 1);
        Due.due("17: rota(2, 0)", x.rota(2, 0), 0);
        Due.due("17: rota(2, 1)", x.rota(2, 1), 0);
        Due.due("17: rota(14, -1)", x.rota(14, -1), 5);
        Due.due("17: nothing changes", x.clue(1, 2), 1);
        Due.due("17: others than the first", x.rota(1, 1), 1);
        Due.read(x, "c2,0;t3,2,1;s1,4,3;");
        x.bribe(1, 1);
        Due.due("17: never sure", x.rota(5, -1), 0);
        Due.due("17: never sure, the first", x.rota(5, 0), 0);
        Due.due("17: never sure, the first", x.rota(5, 1), 0);
        Due.read(x, "c3,1;t1,2,0;t6,2,0;");
        Due.due("17: the first is at work alone", x.rota(1, -1), 1);
        Due.due("17: the first is at work alone", x.rota(1, 0), 1);
        Due.due("17: the second is off", x.rota(1, 1), 0);
        // Each of six stains rules out another one: sure are the days on which just one is off, three of four at most.
        Due.read(x, "c6,1;s1,4,3;s2,4,3;s4,4,3;s8,4,3;s16,4,3;s32,4,3;");
        Due.due("17: six suspects", x.rota(4, -1), 3);
        int[] off = {0, 0, 0, 1, 2, 3};
        for (int k = 0; k < 6; k++) {
            Due.due("17: off of " + k, x.rota(4, k), off[k]);
        }
        ClueLeave y = Due.of("c2,0;");
        Due.due("17: no clue", y.rota(14, -1), 0);
        Due.due("17: no clue", y.rota(14, 0), Due.NONE);
    }

    /** A thread and its opposite are sure on the days on which just one works: when both are off in turn. */
    private static void rotaFromToday() {
        ClueLeave x = Due.of("c2,1;t1,2,0;t2,2,0;");
        Due.due("17: in turn", x.rota(14, -1), 14);
        Due.due("17: in turn, first", x.rota(14, 0), 0);
        Due.due("17: in turn, second", x.rota(14, 1), 1);
        ClueLeave y = Due.of("c2,0;t1,4,3;a1,2,1;");
        Due.due("17: the alibi alone", y.rota(1, -1), 1);
        Due.due("17: off on the day", y.rota(1, 0), 0);
        Due.due("17: of several the first", y.rota(1, 1), 0);
        y.days(3);
        Due.due("17: from day 3 on", y.rota(1, 0), 3);
        Due.due("17: one of two days", y.rota(2, -1), 1);
        Due.due("17: day 4 comes first", y.rota(2, 0), 0);
        y.bribe(1, 1);
        Due.due("17: bribed", y.rota(4, -1), 3);
        ClueLeave z = Due.of("c2,0;g1,2,0;");
        // Days 0 and 7 are sundays: 1, 3, 5 or 2, 4, 6 are left.
        Due.due("17: a glove, and sundays", z.rota(8, -1), 3);
        Due.due("17: of several the first", z.rota(8, 0), 0);
        Due.due("17: one day more", z.rota(9, -1), 4);
        Due.due("17: off on odd days", z.rota(9, 0), 1);
        z.days(1);
        Due.due("17: from day 1 on", z.rota(14, -1), 6);
    }

    private static void when() {
        ClueLeave x = new ClueLeave();
        Due.due("18: no city", x.when(0, 1), Due.BAD);
        Due.read(x, Due.PAIR);
        Due.due("18: when(3, 1)", x.when(3, 1), Due.BAD);
        Due.due("18: when(-1, 1)", x.when(-1, 1), Due.BAD);
        Due.due("18: when(0, 0)", x.when(0, 0), Due.BAD);
        Due.due("18: when(0, 61)", x.when(0, 61), Due.BAD);
        Due.due("18: when(0, 1)", x.when(0, 1), Due.NONE);
        Due.due("18: when(0, 2)", x.when(0, 2), 1);
        Due.due("18: when(0, 4)", x.when(0, 4), 1);
        Due.due("18: when(0, 5)", x.when(0, 5), 4);
        Due.due("18: when(0, 60)", x.when(0, 60), 4);
        Due.due("18: when(1, 1)", x.when(1, 1), 0);
        Due.due("18: when(1, 4)", x.when(1, 4), 0);
        Due.due("18: when(2, 60)", x.when(2, 60), 4);
        x.days(3);
        Due.due("18: alone is not enough", x.when(1, 1), Due.NONE);
        Due.due("18: from day 3 on", x.when(1, 2), 1);
    }

    private static void enough() {
        ClueLeave x = new ClueLeave();
        Due.due("19: STATE ahead of BAD", x.enough(-1, 0), Due.STATE);
        Due.read(x, Due.PAIR);
        Due.due("19: enough(-1, 0)", x.enough(-1, 0), Due.BAD);
        Due.due("19: enough(100, 0)", x.enough(100, 0), Due.BAD);
        Due.due("19: enough(0, 2)", x.enough(0, 2), Due.BAD);
        Due.due("19: enough(0, -1)", x.enough(0, -1), Due.BAD);
        int[] many = {1, 1, 1, 2, 0, 2};
        int[] which = {2, 1, 2, 3, 0, 3};
        for (int d = 0; d <= 99; d++) {
            Due.due("19: how many behind " + d, x.enough(d, 0), many[d % 6]);
            Due.due("19: which behind " + d, x.enough(d, 1), which[d % 6]);
        }
        ClueLeave y = Due.of("c4,6;a8,2,0;a4,2,0;a12,2,0;a1,2,0;a9,2,0;a5,2,0;");
        Due.due("19: two of six", y.enough(0, 0), 2);
        Due.due("19: of several the least", y.enough(0, 1), 4 + 8);
        y.bribe(2, 1);
        Due.due("19: without the third", y.enough(0, 0), 2);
        Due.due("19: the second and the fifth", y.enough(0, 1), 2 + 16);
    }

    private static void clash() {
        ClueLeave x = new ClueLeave();
        Due.due("20: STATE ahead of BAD", x.clash(-1, 0), Due.STATE);
        Due.read(x, Due.PAIR);
        Due.due("20: clash(-1, 0)", x.clash(-1, 0), Due.BAD);
        Due.due("20: clash(100, 0)", x.clash(100, 0), Due.BAD);
        Due.due("20: clash(0, 2)", x.clash(0, 2), Due.BAD);
        Due.due("20: clash(0, -1)", x.clash(0, -1), Due.BAD);
        Due.due("20: clash(3, 0)", x.clash(3, 0), Due.NONE);
        Due.due("20: clash(3, 1)", x.clash(3, 1), Due.NONE);
        Due.due("20: clash(4, 1)", x.clash(4, 1), Due.NONE);
        ClueLeave y = Due.of("c3,0;a3,2,0;s4,2,1;t1,2,1;a7,2,0;");
        Due.due("20: one that leaves nobody", y.clash(0, 0), 1);
        Due.due("20: which", y.clash(0, 1), 8);
        y.learn(3, 1);
        Due.due("20: two", y.clash(0, 0), 2);
        Due.due("20: of several the least", y.clash(0, 1), 1 + 2);
        y.shift(1, 0);
        Due.due("20: the stain is off", y.clash(0, 1), 1 + 4);
        Due.due("20: all others are off", y.clash(1, 1), 1 + 2);
        Due.due("20: enough is as much", y.enough(0, 1), 1 + 4);
        ClueLeave z = Due.of("c2,0;t1,4,0;a1,2,0;");
        z.days(1);
        Due.due("20: from day 1 on", z.clash(0, 0), 2);
        Due.due("20: on day 2", z.clash(1, 0), 2);
        Due.due("20: on day 4", z.clash(3, 0), Due.NONE);
        Due.due("19: on day 4", z.enough(3, 1), 2);
    }

    private static void tell(ClueLeave x, int row, int... items) {
        x.row(row, 2, items.length);
        for (int i = 0; i < items.length; i++) {
            x.set(row, i, items[i]);
        }
    }

    private static void bribes() {
        ClueLeave x = Due.of(Due.PAIR);
        tell(x, 0, 9, 6, 3, 6, 2, 7, 2);
        Due.due("21: as it is", x.bribes(0, 1, 6), 64);
        Due.due("21: as it is, but from another place", x.bribes(0, 2, 2), 0);
        Due.due("21: the thread is not at work yet", x.bribes(0, 1, 1), 65);
        tell(x, 1, 6, 7, 6, 6, 7, 6);
        Due.due("21: the thread is bribed", x.bribes(1, 0, 6), 1);
        tell(x, 2, 1, 3, 1, 1, 7, 1);
        Due.due("21: the voice is bribed", x.bribes(2, 0, 6), 2);
        Due.due("21: the last item", x.bribes(2, 5, 1), 2);
        x.bribe(0, 1);
        Due.due("21: bribed as it is", x.bribes(1, 0, 6), 64);
        Due.due("21: no more bribed", x.bribes(0, 1, 6), 1);
        Due.due("21: one alone is otherwise", x.bribes(2, 0, 6), 0);
        x.days(3);
        Due.due("21: from day 3 on", x.bribes(1, 3, 3), 64);
        ClueLeave y = Due.of("c6,0;");
        y.row(0, 0, 16);
        for (int i = 0; i < 16; i++) {
            y.set(0, i, 63);
        }
        Due.due("21: 16 days, no clue", y.bribes(0, 0, 16), 64);
        y.set(0, 15, -1);
        Due.due("21: the last day is another", y.bribes(0, 0, 16), 0);
        Due.due("21: but for the last", y.bribes(0, 0, 15), 64);
    }

    private static void sorts() {
        ClueLeave x = Due.of("c3,2;t3,2,0;v6,3,1;");
        tell(x, 0, 6, 3, 6, 2, 7, 2);
        Due.due("22: a thread, a glove, a voice", x.fits(0, 0, 0, 6, 0), 2 + 4 + 8);
        Due.due("22: voice", x.fits(1, 0, 0, 2, 0), 2 + 4 + 8);
        Due.due("22: no glove on day 2", x.fits(1, 0, 0, 6, 0), 2 + 8);
        tell(x, 1, 6, 4, 6, 4, 7, 4);
        Due.due("22: a stain", x.fits(0, 1, 0, 6, 0), 1 << 4);
        tell(x, 2, 4, 4, 4, 4, 4, 4);
        Due.due("22: an alibi", x.fits(0, 2, 0, 6, 0), 1 << 5);
        tell(x, 3, 6, 4);
        Due.due("22: a stain and no alibi", x.fits(0, 3, 0, 2, 0), 1 << 4);
        x.bribe(0, 1);
        tell(x, 4, 6, 4, 6, 4, 7, 4);
        Due.due("22: a bribed voice alone leaves others", x.fits(0, 4, 0, 6, 0), 1 << 3);
        tell(x, 5, 6, 7, 6, 6, 7, 6);
        Due.due("22: all others leave all", x.fits(0, 5, 0, 6, 0), 2 + 4 + 16 + 32);
    }

    private static void offs() {
        ClueLeave x = Due.of(Due.PAIR);
        tell(x, 0, 6, 3, 6, 2, 7, 2);
        Due.due("22: off as it is", x.fits(0, 0, 0, 6, 1), 1);
        Due.due("22: off as it is", x.fits(1, 0, 0, 6, 1), 2);
        Due.due("22: off on other days", x.fits(1, 0, 0, 1, 1), 2 + 4);
        tell(x, 1, 2, 6, 2, 7);
        Due.due("22: the thread on even days", x.fits(0, 1, 0, 1, 1), 2);
        Due.due("22: no such one", x.fits(0, 1, 0, 2, 1), 0);
        x.bribe(0, 1);
        tell(x, 2, 6, 7, 6);
        Due.due("22: bribed, off is the same", x.fits(0, 2, 0, 3, 1), 3);
        ClueLeave y = Due.of("c2,0;a1,4,0;");
        tell(y, 0, 2, 2, 2, 2, 2, 2, 2, 2, 2, 2, 2, 2, 2, 2, 2, 2);
        Due.due("22: of an alibi all", y.fits(0, 0, 0, 16, 1), 15);
    }

    private static void findings() {
        ClueLeave x = new ClueLeave();
        Due.due("21: STATE ahead of BAD", x.bribes(8, 0, 0), Due.STATE);
        Due.due("22: no city", x.fits(0, 0, 0, 1, 0), Due.BAD);
        x.row(0, 0, -1);
        Due.read(x, Due.PAIR);
        Due.due("32: status()", x.status(), 4);
        Due.due("21: row 8", x.bribes(8, 0, 1), Due.BAD);
        Due.due("21: row -1", x.bribes(-1, 0, 1), Due.BAD);
        Due.due("21: n 0", x.bribes(0, 0, 0), Due.BAD);
        Due.due("21: n 17", x.bribes(0, 0, 17), Due.BAD);
        Due.due("22: clue 2", x.fits(2, 0, 0, 1, 0), Due.BAD);
        Due.due("22: clue -1", x.fits(-1, 0, 0, 1, 0), Due.BAD);
        Due.due("22: row 8", x.fits(0, 8, 0, 1, 0), Due.BAD);
        Due.due("22: row -1", x.fits(0, -1, 0, 1, 0), Due.BAD);
        Due.due("22: n 0", x.fits(0, 0, 0, 0, 0), Due.BAD);
        Due.due("22: n 17", x.fits(0, 0, 0, 17, 0), Due.BAD);
        Due.due("22: what 2", x.fits(0, 0, 0, 1, 2), Due.BAD);
        Due.due("22: what -1", x.fits(0, 0, 0, 1, -1), Due.BAD);
        Due.due("32: status() stays", x.status(), 4);
        Due.due("21: missing", x.bribes(0, -1, 1), Due.NULL);
        Due.due("32: status()", x.status(), 1);
        x.row(0, 0, 5);
        Due.due("32: status()", x.status(), 0);
        Due.due("22: missing", x.fits(0, 1, -1, 1, 0), Due.NULL);
        Due.due("32: status()", x.status(), 1);
        Due.due("21: i below 0", x.bribes(0, -1, 1), Due.PLACE);
        Due.due("32: status()", x.status(), 2);
        Due.due("21: beyond the end", x.bribes(0, 5, 1), Due.PLACE);
        Due.due("21: beyond the end", x.bribes(0, 1, 5), Due.PLACE);
        Due.due("21: i max", x.bribes(0, Integer.MAX_VALUE, 16), Due.PLACE);
        Due.due("21: up to the end", x.bribes(0, 4, 1), 0);
        Due.due("32: status()", x.status(), 0);
        Due.due("22: beyond the end", x.fits(0, 0, 1, 5, 1), Due.PLACE);
        Due.due("22: i below 0", x.fits(0, 0, -1, 5, 0), Due.PLACE);
        Due.due("22: i min", x.fits(0, 0, Integer.MIN_VALUE, 1, 0), Due.PLACE);
        Due.due("32: status()", x.status(), 2);
        Due.due("22: up to the end", x.fits(0, 0, 0, 5, 1), 0);
        Due.due("32: status()", x.status(), 0);
    }

    private static void fraction(ClueLeave x, int d, int c, int above, int below) {
        Due.due("23: above, d " + d + ", c " + c, x.strike(d, c, 0), above);
        Due.due("23: below, d " + d + ", c " + c, x.strike(d, c, 1), below);
    }

    private static void strikes() {
        ClueLeave x = new ClueLeave();
        Due.due("23: STATE ahead of BAD", x.strike(0, 11, 0), Due.STATE);
        Due.read(x, Due.PAIR);
        Due.due("23: strike(-1, 0, 0)", x.strike(-1, 0, 0), Due.BAD);
        Due.due("23: strike(100, 0, 0)", x.strike(100, 0, 0), Due.BAD);
        Due.due("23: strike(0, -1, 0)", x.strike(0, -1, 0), Due.BAD);
        Due.due("23: strike(0, 11, 0)", x.strike(0, 11, 0), Due.BAD);
        Due.due("23: strike(0, 0, 2)", x.strike(0, 0, 2), Due.BAD);
        Due.due("23: strike(0, 0, -1)", x.strike(0, 0, -1), Due.BAD);
        fraction(x, 3, 0, 1, 1);
        fraction(x, 3, 3, 49, 100);
        fraction(x, 3, 5, 1, 4);
        fraction(x, 99, 9, 1, 100);
        fraction(x, 3, 10, 0, 1);
        fraction(x, 0, 5, 0, 1);
        fraction(x, 4, 0, 0, 1);
        fraction(x, 4, 10, 0, 1);
        // Nobody is left by both; just one is left by one alone: 2 times 3 times 7 of 100.
        ClueLeave y = Due.of("c2,0;a1,2,0;a2,2,0;");
        fraction(y, 0, 3, 21, 50);
        fraction(y, 0, 0, 0, 1);
        fraction(y, 0, 10, 0, 1);
        fraction(y, 0, 5, 1, 2);
        ClueLeave z = Due.of("c2,0;a1,2,0;a1,2,0;a1,2,0;a1,2,0;a1,2,0;a1,2,0;");
        fraction(z, 0, 3, 999271, 1000000);
        fraction(z, 0, 5, 63, 64);
        fraction(z, 99, 9, 468559, 1000000);
        fraction(z, 1, 10, 0, 1);
        x.days(1);
        fraction(x, 1, 5, 0, 1);
        fraction(x, 2, 5, 1, 4);
        x.days(2);
        fraction(x, 2, 5, 1, 4);
        fraction(x, 0, 3, 49, 100);
    }

    /**
     * The X of SEED 1 are known: 16807, 282475249, 1622650073, 984943658, 1144108930, 470211272, 101027544,
     * 1457850878, 1458777923, 2007237709; by 3: 1 1 2 2 1 2 0 2 2 1. PAIR is sure by 1 on days 3, 5, 9.
     */
    private static void cases() {
        ClueLeave x = new ClueLeave();
        Due.due("24: STATE ahead of BAD", x.drawn(61, 0, 0), Due.STATE);
        Due.read(x, Due.PAIR);
        Due.due("24: drawn(-1, 1, 0)", x.drawn(-1, 1, 0), Due.BAD);
        Due.due("24: drawn(61, 1, 0)", x.drawn(61, 1, 0), Due.BAD);
        Due.due("24: drawn(1, 0, 0)", x.drawn(1, 0, 0), Due.BAD);
        Due.due("24: drawn(1, 1000000, 0)", x.drawn(1, 1000000, 0), Due.BAD);
        Due.due("24: drawn(1, 1, 2)", x.drawn(1, 1, 2), Due.BAD);
        Due.due("24: drawn(1, 1, -1)", x.drawn(1, 1, -1), Due.BAD);
        int[] him = {0, 0, 0, 0, 0, 0, 0, 0, 0, 0, 1};
        int[] other = {0, 0, 0, 0, 1, 1, 2, 2, 2, 2, 2};
        for (int n = 0; n <= 10; n++) {
            Due.due("24: by him, " + n, x.drawn(n, 1, 0), him[n]);
            Due.due("24: by another one, " + n, x.drawn(n, 1, 1), other[n]);
        }
        Due.due("24: all that are sure", x.drawn(60, 999999, 0) + x.drawn(60, 999999, 1), 20);
        x.days(3);
        Due.due("24: day 3 first", x.drawn(1, 1, 0), 1);
        Due.due("24: day 5 third", x.drawn(3, 1, 1), 1);
    }

    private static void nothingChanges() {
        ClueLeave x = Due.of(Due.SIX);
        x.days(2);
        x.row(0, 0, 4);
        x.ahead(9, 0);
        x.first(0);
        x.rota(5, -1);
        x.when(0, 9);
        x.enough(3, 1);
        x.clash(3, 1);
        x.bribes(0, 0, 4);
        x.fits(2, 0, 0, 4, 0);
        x.fits(2, 0, 0, 4, 1);
        x.strike(2, 5, 0);
        x.drawn(5, 5, 0);
        Due.due("3: the day", x.count(3), 2);
        Due.due("3: bribes", x.count(5), 0);
        Due.due("3: acts", x.count(6), 2);
        int[] off = {1, 0, 2, 0, 1, 3};
        int[] kinds = {1, 2, 3, 4, 5, 1};
        for (int c = 0; c < 6; c++) {
            Due.due("3: off " + c, x.clue(c, 2), off[c]);
            Due.due("3: kind " + c, x.kind(c), kinds[c]);
        }
    }
}
