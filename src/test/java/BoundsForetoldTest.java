import static java.lang.Integer.MAX_VALUE;
import static java.lang.Integer.MIN_VALUE;

/** Section 3 of the terms, what is FORETOLD, and promises 15 to 20, 23, 24: each sentence at its bounds. */
public final class BoundsForetoldTest {
    private static final Twins.State NEW = Twins.State.NEW, BARE = Twins.State.BARE, MID = Twins.State.MID,
        PACKED = Twins.State.PACKED;
    private static final int[] NO_AHEAD = {MIN_VALUE, -1, 100, 101, MAX_VALUE};
    /** All are left but on day 83 of each 84: 59 if the sunday is 3; two threads and a glove rule suspect 0 out. */
    private static final String RARE = "t2,4,3;t2,3,2;g2,2,0;";

    public static void main(String[] args) {
        ahead();
        aheadOfLastDay();
        aheadRefused();
        first();
        firstOfFar();
        firstRefused();
        rotaOfBounds();
        rotaFirst();
        rotaOfNone();
        rotaRefused();
        whenAtBounds();
        whenAlone();
        whenRefused();
        enough();
        clash();
        fewestRefused();
        strike();
        strikeInLowestTerms();
        strikeRefused();
        drawn();
        drawnRefused();
        longRun();
        Due.end("BoundsForetoldTest");
    }

    private static void toDay(ClueLeave x, int day) {
        while (x.count(3) < day) {
            x.days(Math.min(24, day - x.count(3)));
        }
    }

    private static void ahead() {
        Due.sentence("FORETOLD (nothing changes), d DAYS from now (0 to 99; 0: this one)");
        // Of MID day 3 leaves 4 by clues 2 to 5, day 102 by 0, 4, 5; of PACKED day 999 leaves 9, day 1098 leaves 4.
        int[] due = {4, 60, 2, 4, 49, 2};
        int[] last = {9, 28, Due.NONE, 4, 49, 2};
        int[] bare = {3, 0, Due.NONE};
        for (int what = 0; what <= 2; what++) {
            int asked = what;
            Twins.told("ahead(0, " + what + ")", x -> x.ahead(0, asked), due[what], MID);
            Twins.told("ahead(99, " + what + ")", x -> x.ahead(99, asked), due[3 + what], MID);
            Twins.told("ahead(0, " + what + ")", x -> x.ahead(0, asked), last[what], PACKED);
            Twins.told("ahead(99, " + what + ")", x -> x.ahead(99, asked), last[3 + what], PACKED);
            Twins.told("ahead(0, " + what + ")", x -> x.ahead(0, asked), bare[what], BARE);
            Twins.told("ahead(99, " + what + ")", x -> x.ahead(99, asked), bare[what], BARE);
        }
    }

    private static void aheadOfLastDay() {
        Due.sentence("LEFT then; AT WORK then: what days() brings");
        ClueLeave x = Due.of(Due.SIX);
        int[] left = new int[100];
        int[] workers = new int[100];
        for (int d = 0; d <= 99; d++) {
            left[d] = x.ahead(d, 0);
            workers[d] = x.ahead(d, 1);
        }
        for (int d = 0; d <= 99; d++) {
            if (d > 0) {
                Due.due("days(1) to day " + d, x.days(1), left[d]);
            }
            Due.due("ahead(0, 1) on day " + d, x.ahead(0, 1), workers[d]);
        }
        ClueLeave y = Due.of("c2,4;g1,4,3;");
        toDay(y, 999);
        // 1008 is 12 times 84, so it leaves nothing by 4 and by 7.
        Due.due("day 1005 is a sunday", y.ahead(6, 1), 0);
        Due.due("day 1006", y.ahead(7, 1), 1);
        Due.due("day 1007 is off", y.ahead(8, 1), 0);
        Due.due("day 1008", y.ahead(9, 1), 1);
        Due.due("day 1098", y.ahead(99, 1), 1);
        Due.due("day 1097", y.ahead(98, 1), 1);
        Due.due("day 1096 is a sunday", y.ahead(97, 1), 0);
    }

    private static void aheadRefused() {
        Due.sentence("ahead: BAD; STATE: no CITY (ahead of BAD).");
        for (int d : NO_AHEAD) {
            for (int what = 0; what <= 2; what++) {
                int asked = what;
                String call = "ahead(" + d + ", " + what + ")";
                Twins.refused(call, x -> x.ahead(d, asked), Due.STATE, NEW);
                Twins.refused(call, x -> x.ahead(d, asked), Due.BAD, BARE, MID, PACKED);
            }
        }
        for (int what : new int[] {MIN_VALUE, -1, 3, 4, MAX_VALUE}) {
            for (int d : new int[] {0, 99}) {
                String call = "ahead(" + d + ", " + what + ")";
                Twins.refused(call, x -> x.ahead(d, what), Due.STATE, NEW);
                Twins.refused(call, x -> x.ahead(d, what), Due.BAD, BARE, MID, PACKED);
            }
        }
        Twins.refused("ahead(0, 0)", x -> x.ahead(0, 0), Due.STATE, NEW);
    }

    private static void first() {
        Due.sentence("SURE: behind how many DAYS (0 to 99) one is SURE first; MEAN so; NONE.");
        Twins.told("first(0) of this day", x -> x.first(0), 0, MID);
        Twins.told("first(1)", x -> x.first(1), Due.NONE, MID);
        Twins.told("first(0)", x -> x.first(0), 3, PACKED);
        Twins.told("first(1)", x -> x.first(1), 1, PACKED);
        Twins.told("first(0) without clues", x -> x.first(0), Due.NONE, BARE);
        Twins.told("first(1) without clues", x -> x.first(1), Due.NONE, BARE);
    }

    private static void firstOfFar() {
        Due.sentence("behind how many DAYS (0 to 99): the farthest that there is");
        // All three are off on a day that leaves 11 by 12 and 6 by 7: the alibi alone leaves suspect 0.
        ClueLeave x = Due.of("c2,6;" + RARE + "a2,2,0;");
        Due.due("first(0) on day 0", x.first(0), 83);
        Due.due("first(1) on day 0", x.first(1), 0);
        Due.due("that day", x.ahead(83, 2), 0);
        x.days(1);
        Due.due("first(0) on day 1", x.first(0), 82);
        toDay(x, 83);
        Due.due("first(0) on day 83", x.first(0), 0);
        Due.due("first(1) on day 83", x.first(1), 1);
        x.days(1);
        Due.due("first(0) on day 84", x.first(0), 83);
        toDay(x, 999);
        Due.due("first(0) on day 999 is day 1007", x.first(0), 8);
    }

    private static void firstRefused() {
        Due.sentence("first: BAD; STATE: no CITY (ahead of BAD).");
        for (int mean : new int[] {MIN_VALUE, -1, 2, 3, MAX_VALUE}) {
            Twins.refused("first(" + mean + ")", x -> x.first(mean), Due.STATE, NEW);
            Twins.refused("first(" + mean + ")", x -> x.first(mean), Due.BAD, BARE, MID, PACKED);
        }
        Twins.refused("first(1)", x -> x.first(1), Due.STATE, NEW);
    }

    private static void rotaOfBounds() {
        Due.sentence("ROTA for n DAYS (1 to 14) from this one on: OFF of all clues: how many; the k-th.");
        Twins.told("rota(1, -1)", x -> x.rota(1, -1), 1, MID, PACKED);
        int[] packed = {0, 0, 0, 0, 0, 3};
        for (int k = 0; k <= 5; k++) {
            int asked = k;
            Twins.told("rota(1, " + k + ")", x -> x.rota(1, asked), 0, MID);
            Twins.told("rota(1, " + k + ")", x -> x.rota(1, asked), packed[k], PACKED);
        }
        // An alibi leaves suspect 0, a thread suspect 1: sure is a day on which the thread is off.
        ClueLeave x = Due.of("c2,0;a2,4,1;t2,2,1;");
        for (int n = 1; n <= 14; n++) {
            Due.due("rota(" + n + ", -1)", x.rota(n, -1), (n + 1) / 2);
            Due.due("rota(" + n + ", 0)", x.rota(n, 0), 0);
            Due.due("rota(" + n + ", 1)", x.rota(n, 1), 0);
            Due.due("rota(" + n + ", 2)", x.rota(n, 2), Due.NONE);
        }
        x.days(1);
        Due.due("rota(1, 1) on day 1", x.rota(1, 1), 1);
        Due.due("rota(14, -1) on day 1", x.rota(14, -1), 7);
        Due.due("rota(13, 1) on day 1", x.rota(13, 1), 1);
        toDay(x, 999);
        Due.due("rota(14, -1) on day 999", x.rota(14, -1), 7);
        Due.due("rota(13, 1) on day 999", x.rota(13, 1), 1);
        ClueLeave y = Due.of("c2,0;a1,2,0;");
        Due.due("all 14 days are sure", y.rota(14, -1), 14);
        Due.due("all 13 days are sure", y.rota(13, -1), 13);
    }

    private static void rotaFirst() {
        Due.sentence("of several the first (by numbers, clue by clue)");
        // Sure is a day on which the last is at work; of the others it is all one when they are off.
        ClueLeave x = Due.of("c6,0;t3,4,1;t3,4,1;t3,4,1;t3,4,1;t3,4,1;t1,4,1;");
        Due.due("the last is enough", x.rota(1, -1), 1);
        int[] off = {0, 0, 0, 0, 0, 1};
        for (int k = 0; k < 6; k++) {
            Due.due("off of " + k, x.rota(1, k), off[k]);
        }
        Due.due("four days", x.rota(4, -1), 3);
        Due.due("four days, the last is off first", x.rota(4, 5), 0);
        // Five stains must be at work on all three days, each rules out another one: only few rotas come behind this one.
        ClueLeave z = Due.of("c6,0;s1,4,0;s2,4,0;s4,4,0;s8,4,0;s16,4,0;t63,4,0;");
        Due.due("three days", z.rota(3, -1), 3);
        for (int k = 0; k < 6; k++) {
            Due.due("three days, off of " + k, z.rota(3, k), k < 5 ? 3 : 0);
        }
        // All four that leave suspect 0 must be off on day 3.
        ClueLeave y = Due.of("c2,1;a1,4,0;s1,4,0;t1,4,0;t1,4,0;g1,4,0;v1,4,0;");
        toDay(y, 3);
        Due.due("day 3", y.rota(1, -1), 1);
        int[] last = {0, 0, 3, 3, 3, 3};
        for (int k = 0; k < 6; k++) {
            Due.due("day 3, off of " + k, y.rota(1, k), last[k]);
        }
        y.bribe(0, 1);
        Due.due("without the alibi the stain must work", y.rota(1, 1), 0);
        y.learn(1, 2);
        Due.due("a stain that leaves 0, too", y.rota(1, -1), 1);
        Due.due("all are at work", y.rota(1, 5), 0);
        y.bribe(1, 1);
        y.bribe(2, 1);
        y.bribe(3, 1);
        y.bribe(4, 1);
        Due.due("the voice alone", y.rota(1, -1), 1);
        Due.due("is at work", y.rota(1, 5), 0);
        y.bribe(5, 1);
        Due.due("and tells the other", y.rota(1, -1), 1);
    }

    private static void rotaOfNone() {
        Due.sentence("OFF of the k-th (0 on; NONE: no such clue)");
        for (int k = 0; k <= 5; k++) {
            int asked = k;
            Twins.told("rota(1, " + k + ") without clues", x -> x.rota(1, asked), Due.NONE, BARE);
            Twins.told("rota(14, " + k + ") without clues", x -> x.rota(14, asked), Due.NONE, BARE);
            // Two days are sure, if not all three are off on the same one.
            ClueLeave x = Due.of("c2,0;t1,4,2;t1,4,2;t1,4,2;");
            Due.due("rota(2, " + k + ") of three", x.rota(2, k), k < 2 ? 0 : k == 2 ? 1 : Due.NONE);
        }
        ClueLeave never = Due.of("c6,0;s1,4,0;s2,4,0;s4,4,0;s8,4,0;s16,4,0;t63,4,0;");
        Due.due("off of the first, of sure days", never.rota(3, 0), 3);
        never.bribe(0, 1);
        Due.due("never sure", never.rota(3, -1), 0);
        for (int k = 0; k <= 5; k++) {
            Due.due("never sure: the first of all, " + k, never.rota(3, k), 0);
        }
        Twins.told("rota(1, -1) without clues", x -> x.rota(1, -1), 0, BARE);
        Twins.told("rota(14, -1) without clues", x -> x.rota(14, -1), 0, BARE);
    }

    private static void rotaRefused() {
        Due.sentence("rota: BAD: k not -1 to 5, too; STATE: no CITY (ahead of BAD).");
        for (int n : new int[] {MIN_VALUE, -1, 0, 15, 16, 31, 32, MAX_VALUE}) {
            for (int k : new int[] {-1, 0, 5}) {
                String call = "rota(" + n + ", " + k + ")";
                Twins.refused(call, x -> x.rota(n, k), Due.STATE, NEW);
                Twins.refused(call, x -> x.rota(n, k), Due.BAD, BARE, MID, PACKED);
            }
        }
        for (int k : new int[] {MIN_VALUE, -3, -2, 6, 7, MAX_VALUE}) {
            for (int n : new int[] {1, 14}) {
                String call = "rota(" + n + ", " + k + ")";
                Twins.refused(call, x -> x.rota(n, k), Due.STATE, NEW);
                Twins.refused(call, x -> x.rota(n, k), Due.BAD, BARE, MID, PACKED);
            }
        }
        Twins.refused("rota(1, -1)", x -> x.rota(1, -1), Due.STATE, NEW);
    }

    private static void whenAtBounds() {
        Due.sentence("WHEN for a suspect, n DAYS (1 to 60): behind how many of them (0 to n less 1)");
        // Both are left on day 59 alone of the first 84.
        ClueLeave x = Due.of("c2,3;" + RARE);
        Due.due("when(0, 60)", x.when(0, 60), 59);
        Due.due("when(0, 59)", x.when(0, 59), Due.NONE);
        Due.due("when(1, 60)", x.when(1, 60), 59);
        Due.due("when(0, 1)", x.when(0, 1), Due.NONE);
        x.days(1);
        Due.due("when(0, 60) on day 1", x.when(0, 60), 58);
        Due.due("when(0, 59) on day 1", x.when(0, 59), 58);
        Due.due("when(0, 58) on day 1", x.when(0, 58), Due.NONE);
        toDay(x, 59);
        Due.due("when(0, 1) on day 59", x.when(0, 1), 0);
        Due.due("when(0, 60) on day 59", x.when(0, 60), 0);
        x.days(1);
        Due.due("when(0, 60) on day 60", x.when(0, 60), Due.NONE);
        toDay(x, 999);
        // 1067 is 12 times 84 and 59.
        Due.due("when(0, 60) on day 999", x.when(0, 60), Due.NONE);
        x.shift(2, 1);
        x.learn(2, 3);
        Due.due("when(0, 60) on day 999, of the threads alone, day 1007", x.when(0, 60), 8);
        Twins.told("when(0, 1) without clues", y -> y.when(0, 1), 0, BARE);
        Twins.told("when(1, 60) without clues", y -> y.when(1, 60), 0, BARE);
        Twins.told("when(0, 1)", y -> y.when(0, 1), 0, PACKED);
        Twins.told("when(3, 1)", y -> y.when(3, 1), 0, PACKED);
        Twins.told("when(4, 1), he is not left", y -> y.when(4, 1), Due.NONE, PACKED);
    }

    private static void whenAlone() {
        Due.sentence("most SUSPECTS are LEFT, he being one of them, and not alone, of several the first; NONE");
        Twins.told("when(2, 1), alone", x -> x.when(2, 1), Due.NONE, MID);
        Twins.told("when(0, 60), never left", x -> x.when(0, 60), Due.NONE, MID);
        // On all days 0 and 1 are left.
        ClueLeave x = Due.of("c4,0;t7,4,1;t3,4,0;s4,2,1;");
        Due.due("of several the first", x.when(0, 60), 0);
        Due.due("of several the first", x.when(1, 60), 0);
        Due.due("never left", x.when(3, 60), Due.NONE);
        ClueLeave y = Due.of("c3,0;t3,3,2;v7,2,0;");
        Due.due("day 2 leaves all, day 0 two", y.when(0, 60), 2);
        Due.due("day 0 leaves two", y.when(0, 2), 0);
        Due.due("the third on day 2", y.when(2, 60), 2);
        Due.due("the third, not yet", y.when(2, 2), Due.NONE);
    }

    private static void whenRefused() {
        Due.sentence("when: BAD.");
        Twins.refused("when(0, 1)", x -> x.when(0, 1), Due.BAD, NEW);
        Twins.refused("when(0, 60)", x -> x.when(0, 60), Due.BAD, NEW);
        for (int s : new int[] {MIN_VALUE, -1, 6, 7, 31, 32, MAX_VALUE}) {
            Twins.refused("when(" + s + ", 1)", x -> x.when(s, 1), Due.BAD, NEW, BARE, MID, PACKED);
        }
        Twins.refused("when(5, 1) of five", x -> x.when(5, 1), Due.BAD, MID, PACKED);
        Twins.refused("when(2, 1) of two", x -> x.when(2, 1), Due.BAD, BARE);
        for (int n : new int[] {MIN_VALUE, -1, 0, 61, 62, MAX_VALUE}) {
            Twins.refused("when(0, " + n + ")", x -> x.when(0, n), Due.BAD, NEW, BARE, MID, PACKED);
        }
        Due.due("when(5, 60) of six", Due.of("c6,0;").when(5, 60), 0);
        Due.due("when(6, 60) of six", Due.of("c6,0;").when(6, 60), Due.BAD);
    }

    private static void enough() {
        Due.sentence("ENOUGH on a DAY: the fewest clues AT WORK that LEAVE together no more than all that are");
        for (int d : new int[] {0, 99}) {
            for (int what = 0; what <= 1; what++) {
                int asked = what;
                Twins.told("enough(" + d + ", " + what + ") without clues", x -> x.enough(d, asked), 0, BARE);
            }
        }
        Twins.told("enough(0, 0)", x -> x.enough(0, 0), 2, MID);
        Twins.told("enough(0, 1)", x -> x.enough(0, 1), 12, MID);
        Twins.told("enough(99, 0)", x -> x.enough(99, 0), 2, MID);
        Twins.told("enough(99, 1)", x -> x.enough(99, 1), 33, MID);
        Twins.told("enough(1, 1), nobody is left", x -> x.enough(1, 1), 7, PACKED);
        ClueLeave x = Due.of("c2,0;t3,2,1;t3,2,1;");
        Due.due("all at work, and all are left", x.enough(0, 0), 0);
        Due.due("which: none", x.enough(0, 1), 0);
        Due.due("none at work", x.enough(1, 1), 0);
        // All six are needed: each rules out another one.
        ClueLeave y = Due.of(Due.READER);
        Due.due("all six", y.enough(0, 0), 6);
        Due.due("which: all", y.enough(0, 1), 63);
        y.bribe(5, 1);
        Due.due("one is bribed: five", y.enough(0, 1), 31);
        Due.due("of several the least", Due.of("c2,0;t1,2,1;t1,2,1;").enough(0, 1), 1);
        ClueLeave z = Due.of("c3,0;t3,2,1;t6,2,1;t2,2,1;s5,2,1;");
        Due.due("one alone is fewer than two ahead of it", z.enough(0, 0), 1);
        Due.due("of two that are one alone the least", z.enough(0, 1), 4);
    }

    private static void clash() {
        Due.sentence("CLASH on a DAY: the fewest clues AT WORK that LEAVE nobody together: NONE.");
        for (int d : new int[] {0, 99}) {
            for (int what = 0; what <= 1; what++) {
                int asked = what;
                Twins.told("clash(" + d + ", " + what + ")", x -> x.clash(d, asked), Due.NONE, BARE, MID);
            }
        }
        Twins.told("clash(1, 0)", x -> x.clash(1, 0), 3, PACKED);
        Twins.told("clash(1, 1)", x -> x.clash(1, 1), 7, PACKED);
        Twins.told("clash(0, 0), two are left", x -> x.clash(0, 0), Due.NONE, PACKED);
        ClueLeave x = Due.of(Due.READER);
        Due.due("all six", x.clash(0, 0), 6);
        Due.due("which: all", x.clash(99, 1), 63);
        x.bribe(0, 1);
        Due.due("one is left", x.clash(0, 0), Due.NONE);
        Due.due("one is left", x.clash(0, 1), Due.NONE);
        ClueLeave y = Due.of("c2,0;t1,2,1;s3,2,0;a3,2,0;");
        Due.due("one alone, the stain being off", y.clash(0, 1), 4);
        Due.due("one alone, of several the least", y.clash(1, 1), 2);
        Due.due("one alone", y.clash(1, 0), 1);
        ClueLeave w = Due.of("c2,0;t1,2,1;t2,2,1;s3,2,1;t3,2,1;s3,2,1;");
        Due.due("one alone is fewer than two ahead of it", w.clash(0, 0), 1);
        Due.due("of two that are one alone the least", w.clash(0, 1), 4);
        ClueLeave z = Due.of("c2,0;t1,2,0;t2,2,1;");
        Due.due("never at work together", z.clash(0, 0), Due.NONE);
        Due.due("never at work together", z.clash(1, 1), Due.NONE);
    }

    private static void fewestRefused() {
        Due.sentence("enough, clash: BAD; STATE: no CITY (ahead of BAD).");
        for (int d : NO_AHEAD) {
            Twins.refused("enough(" + d + ", 0)", x -> x.enough(d, 0), Due.STATE, NEW);
            Twins.refused("enough(" + d + ", 1)", x -> x.enough(d, 1), Due.BAD, BARE, MID, PACKED);
            Twins.refused("clash(" + d + ", 0)", x -> x.clash(d, 0), Due.STATE, NEW);
            Twins.refused("clash(" + d + ", 1)", x -> x.clash(d, 1), Due.BAD, BARE, MID, PACKED);
        }
        for (int what : new int[] {MIN_VALUE, -1, 2, 3, MAX_VALUE}) {
            Twins.refused("enough(0, " + what + ")", x -> x.enough(0, what), Due.STATE, NEW);
            Twins.refused("enough(0, " + what + ")", x -> x.enough(0, what), Due.BAD, BARE, MID, PACKED);
            Twins.refused("clash(0, " + what + ")", x -> x.clash(0, what), Due.STATE, NEW);
            Twins.refused("clash(0, " + what + ")", x -> x.clash(0, what), Due.BAD, BARE, MID, PACKED);
        }
        Twins.refused("enough(0, 0)", x -> x.enough(0, 0), Due.STATE, NEW);
        Twins.refused("clash(99, 1)", x -> x.clash(99, 1), Due.STATE, NEW);
    }

    private static void fraction(Twins.State state, int d, int c, int above, int below) {
        Twins.told("strike(" + d + ", " + c + ", 0)", x -> x.strike(d, c, 0), above, state);
        Twins.told("strike(" + d + ", " + c + ", 1)", x -> x.strike(d, c, 1), below, state);
    }

    private static void strike() {
        Due.sentence("STRIKE (c 0 to 10): each clue AT WORK on the DAY does not by c of 10, each by itself");
        fraction(MID, 0, 0, 1, 1);
        fraction(MID, 0, 5, 3, 8);
        fraction(MID, 0, 10, 0, 1);
        fraction(MID, 99, 0, 1, 1);
        fraction(MID, 99, 10, 0, 1);
        fraction(PACKED, 0, 0, 0, 1);
        fraction(PACKED, 0, 10, 0, 1);
        fraction(PACKED, 1, 0, 0, 1);
        fraction(BARE, 0, 0, 0, 1);
        fraction(BARE, 0, 5, 0, 1);
        fraction(BARE, 99, 10, 0, 1);
        // Of MID day 102: clues 0 (7), 4 (15) and 5 (12): sure with both the first and the last, by 9 and 9 of 10.
        fraction(MID, 99, 1, 81, 100);
        fraction(MID, 99, 9, 1, 100);
    }

    private static void fraction(ClueLeave x, int c, int above, int below) {
        Due.due("strike(0, " + c + ", 0)", x.strike(0, c, 0), above);
        Due.due("strike(0, " + c + ", 1)", x.strike(0, c, 1), below);
    }

    private static void strikeInLowestTerms() {
        Due.sentence("fractions, told as two numbers in lowest terms (0 is 0 by 1)");
        ClueLeave x = Due.of("c2,0;t1,2,1;");
        int[][] due = {{1, 1}, {9, 10}, {4, 5}, {7, 10}, {3, 5}, {1, 2}, {2, 5}, {3, 10}, {1, 5}, {1, 10}, {0, 1}};
        for (int c = 0; c <= 10; c++) {
            fraction(x, c, due[c][0], due[c][1]);
        }
        // Six that each alone leave suspect 0: never sure are those of 10 to the sixth on which all stay away.
        ClueLeave y = Due.of("c2,0;t1,2,1;t1,2,1;t1,2,1;t1,2,1;t1,2,1;t1,2,1;");
        fraction(y, 0, 1, 1);
        fraction(y, 1, 999999, 1000000);
        fraction(y, 2, 15624, 15625);
        fraction(y, 5, 63, 64);
        fraction(y, 8, 11529, 15625);
        fraction(y, 9, 468559, 1000000);
        fraction(y, 10, 0, 1);
        // All six must work: each rules out another one of five, the sixth nobody.
        ClueLeave z = Due.of("c6,0;a1,2,0;a2,2,0;a4,2,0;a8,2,0;a16,2,0;");
        fraction(z, 0, 1, 1);
        fraction(z, 1, 59049, 100000);
        fraction(z, 5, 1, 32);
        fraction(z, 9, 1, 100000);
        fraction(z, 10, 0, 1);
        ClueLeave never = Due.of("c2,0;t3,2,1;t3,2,1;");
        for (int c = 0; c <= 10; c++) {
            fraction(never, c, 0, 1);
        }
    }

    private static void strikeRefused() {
        Due.sentence("strike: BAD; STATE: no CITY (ahead of BAD).");
        for (int d : NO_AHEAD) {
            Twins.refused("strike(" + d + ", 5, 0)", x -> x.strike(d, 5, 0), Due.STATE, NEW);
            Twins.refused("strike(" + d + ", 5, 0)", x -> x.strike(d, 5, 0), Due.BAD, BARE, MID, PACKED);
        }
        for (int c : new int[] {MIN_VALUE, -1, 11, 12, MAX_VALUE}) {
            Twins.refused("strike(0, " + c + ", 1)", x -> x.strike(0, c, 1), Due.STATE, NEW);
            Twins.refused("strike(0, " + c + ", 1)", x -> x.strike(0, c, 1), Due.BAD, BARE, MID, PACKED);
        }
        for (int what : new int[] {MIN_VALUE, -1, 2, 3, MAX_VALUE}) {
            Twins.refused("strike(0, 5, " + what + ")", x -> x.strike(0, 5, what), Due.STATE, NEW);
            Twins.refused("strike(0, 5, " + what + ")", x -> x.strike(0, 5, what), Due.BAD, BARE, MID, PACKED);
        }
        Twins.refused("strike(0, 5, 0)", x -> x.strike(0, 5, 0), Due.STATE, NEW);
    }

    /** The X by a SEED, said anew: for each of n draws the SUSPECT of so many. */
    private static int[] culprits(int seed, int n, int suspects) {
        int[] drawn = new int[n];
        java.math.BigInteger x = java.math.BigInteger.valueOf(seed);
        for (int i = 0; i < n; i++) {
            x = x.multiply(java.math.BigInteger.valueOf(16807)).mod(java.math.BigInteger.valueOf(2147483647));
            drawn[i] = x.mod(java.math.BigInteger.valueOf(suspects)).intValue();
        }
        return drawn;
    }

    private static void drawn() {
        Due.sentence("CASES on n DAYS (0 to 60), this one first, by a SEED (1 to 999999): how often SURE by him; by another");
        for (int seed : new int[] {1, 2, 16807, 127773, 127774, 999998, 999999}) {
            for (int what = 0; what <= 1; what++) {
                int asked = what;
                Twins.told("drawn(0, " + seed + ", " + what + ")", x -> x.drawn(0, seed, asked), 0, BARE, MID, PACKED);
                Twins.told("drawn(60, " + seed + ", " + what + ") without clues", x -> x.drawn(60, seed, asked), 0, BARE);
            }
            for (int s = 2; s <= 6; s++) {
                // All days are sure by the last suspect.
                ClueLeave x = Due.of("c" + s + ",0;a" + ((1 << (s - 1)) - 1) + ",2,0;");
                int[] culprits = culprits(seed, 60, s);
                int him = 0;
                for (int n = 0; n <= 60; n++) {
                    him += n > 0 && culprits[n - 1] == s - 1 ? 1 : 0;
                    Due.due("drawn(" + n + ", " + seed + ", 0) of " + s, x.drawn(n, seed, 0), him);
                    Due.due("drawn(" + n + ", " + seed + ", 1) of " + s, x.drawn(n, seed, 1), n - him);
                }
            }
        }
        // Day 59 of the first 84 is not sure, all others are, by suspect 1; so is day 1067.
        ClueLeave rare = Due.of("c2,3;" + RARE);
        int[] culprits = culprits(999999, 60, 2);
        int him = 0;
        for (int d = 0; d < 59; d++) {
            him += culprits[d];
        }
        Due.due("drawn(60, ..), the last day is not sure", rare.drawn(60, 999999, 0), him);
        Due.due("drawn(60, ..), by another", rare.drawn(60, 999999, 1), 59 - him);
        toDay(rare, 59);
        Due.due("drawn(1, ..) on day 59", rare.drawn(1, 1, 0) + rare.drawn(1, 1, 1), 0);
        Due.due("drawn(2, ..) on day 59", rare.drawn(2, 1, 0) + rare.drawn(2, 1, 1), 1);
        // 16807 leaves 1 by 2, and the next, 282475249, too.
        Due.due("by him on day 60", rare.drawn(2, 1, 0), 1);
        rare.days(1);
        Due.due("drawn(60, ..) on day 60", rare.drawn(60, 1, 0) + rare.drawn(60, 1, 1), 60);
        toDay(rare, 999);
        Due.due("drawn(60, ..) on day 999", rare.drawn(60, 1, 0) + rare.drawn(60, 1, 1), 60);
        // 16807 leaves 2 by 5: day 3 of MID is sure by suspect 2.
        Twins.told("drawn(1, 1, 0)", x -> x.drawn(1, 1, 0), 1, MID);
        Twins.told("drawn(1, 1, 1)", x -> x.drawn(1, 1, 1), 0, MID);
        Twins.told("drawn(1, 1, 0), not sure", x -> x.drawn(1, 1, 0), 0, PACKED);
        Twins.told("drawn(1, 1, 1), not sure", x -> x.drawn(1, 1, 1), 0, PACKED);
    }

    private static void drawnRefused() {
        Due.sentence("drawn: BAD; STATE: no CITY (ahead of BAD).");
        for (int n : new int[] {MIN_VALUE, -1, 61, 62, MAX_VALUE}) {
            Twins.refused("drawn(" + n + ", 1, 0)", x -> x.drawn(n, 1, 0), Due.STATE, NEW);
            Twins.refused("drawn(" + n + ", 1, 0)", x -> x.drawn(n, 1, 0), Due.BAD, BARE, MID, PACKED);
        }
        for (int seed : new int[] {MIN_VALUE, -1, 0, 1000000, 1000001, 2147483646, MAX_VALUE}) {
            Twins.refused("drawn(0, " + seed + ", 0)", x -> x.drawn(0, seed, 0), Due.STATE, NEW);
            Twins.refused("drawn(0, " + seed + ", 0)", x -> x.drawn(0, seed, 0), Due.BAD, BARE, MID, PACKED);
            Twins.refused("drawn(1, " + seed + ", 1)", x -> x.drawn(1, seed, 1), Due.BAD, BARE, MID, PACKED);
        }
        for (int what : new int[] {MIN_VALUE, -1, 2, 3, MAX_VALUE}) {
            Twins.refused("drawn(1, 1, " + what + ")", x -> x.drawn(1, 1, what), Due.STATE, NEW);
            Twins.refused("drawn(1, 1, " + what + ")", x -> x.drawn(1, 1, what), Due.BAD, BARE, MID, PACKED);
        }
        Twins.refused("drawn(0, 1, 0)", x -> x.drawn(0, 1, 0), Due.STATE, NEW);
    }

    private static void longRun() {
        Due.sentence("An object is used for at most 512 calls after it has been made");
        ClueLeave x = Due.of("c2,0;t1,2,1;");
        // 12 bytes and city() are 13 calls: 498 lessons more, then undo() is call 512.
        for (int i = 1; i <= 498; i++) {
            Due.due("learn() number " + i, x.learn(0, i % 3 + 1), i == 1 ? 1 : (i - 1) % 3 + 1);
        }
        Due.due("undo(), call 512", x.undo(), 23);
        ClueLeave y = new ClueLeave();
        for (int i = 1; i <= 511; i++) {
            Due.due("row() number " + i, y.row(i % 8, i % 3, i % 41), i % 41);
        }
        Due.due("count(0), call 512", y.count(0), 8);
        ClueLeave z = Due.of("c6,6;t63,4,3;g63,4,3;v63,4,3;s63,4,3;s1,4,3;t63,4,3;");
        int text = 53;
        Due.due("count(1)", z.count(1), 6);
        for (int i = 1; i <= 510 - text; i++) {
            // The dearest call: one stain leaves nobody, one all others than one, who is at work else leaves all.
            Due.due("rota() number " + i, z.rota(14, -1), 0);
        }
        Due.due("fault(), call 512", z.fault(), 0);
    }
}
