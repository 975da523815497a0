import static java.lang.Integer.MAX_VALUE;
import static java.lang.Integer.MIN_VALUE;

/** Section 2 of the terms, clues at work, LEFT and ACTS, and promises 9 to 14: each sentence at its bounds. */
public final class BoundsActsTest {
    private static final Twins.State NEW = Twins.State.NEW, BARE = Twins.State.BARE, MID = Twins.State.MID,
        PACKED = Twins.State.PACKED;
    /** Below, at and above 6 clues: MID and PACKED have six. */
    private static final int[] NO_CLUES = {MIN_VALUE, -1, 6, 7, MAX_VALUE};

    public static void main(String[] args) {
        workUnlessOff();
        glovesOnSundays();
        alibisAlways();
        leaves();
        bribedLeaves();
        leftOfNone();
        sureAndMean();
        actsKept();
        actsOfDays();
        oldestForgotten();
        latestFirst();
        nothingBecomesAnother();
        days();
        daysRefused();
        lastDay();
        bribe();
        bribeRefused();
        learn();
        learnRefused();
        shift();
        shiftRefused();
        undo();
        undoRefused();
        clue();
        clueRefused();
        Due.end("BoundsActsTest");
    }

    private static void toDay(ClueLeave x, int day) {
        while (x.count(3) < day) {
            x.days(Math.min(24, day - x.count(3)));
        }
    }

    private static void workUnlessOff() {
        Due.sentence("AT WORK: a thread, a voice, a stain unless DAY by EVERY leaves OFF");
        for (String sort : new String[] {"t", "v", "s"}) {
            for (int every = 2; every <= 4; every++) {
                for (int off = 0; off < every; off++) {
                    String text = "c2,0;" + sort + "1," + every + "," + off + ";";
                    ClueLeave x = Due.of(text);
                    for (int d = 0; d <= 99; d++) {
                        Due.due(text + " on day " + d, x.ahead(d, 1), d % every == off ? 0 : 1);
                    }
                    Due.due(text + " on day 0", x.clue(0, 4), off == 0 ? 0 : 1);
                    toDay(x, 996);
                    // 996 is 83 times 12: no EVERY leaves anything of it.
                    for (int d = 0; d <= 3; d++) {
                        Due.due(text + " on day 996 and " + d, x.clue(0, 4), d % every == off ? 0 : 1);
                        x.days(1);
                    }
                }
            }
        }
    }

    private static void glovesOnSundays() {
        Due.sentence("a glove so, and not on DAYS that leave SUNDAY by 7");
        for (int sunday = 0; sunday <= 6; sunday++) {
            ClueLeave x = Due.of("c2," + sunday + ";g1,4,3;t1,4,3;");
            for (int d = 0; d <= 99; d++) {
                int thread = d % 4 == 3 ? 0 : 2;
                int glove = d % 4 == 3 || d % 7 == sunday ? 0 : 1;
                Due.due("sunday " + sunday + ", day " + d, x.ahead(d, 1), thread + glove);
            }
            toDay(x, 994);
            // 994 is 142 times 7, and leaves 2 by 4.
            int[] thread = {1, 0, 1, 1, 1, 0};
            for (int d = 0; d <= 5; d++) {
                Due.due("the thread, sunday " + sunday + ", day 994 and " + d, x.clue(1, 4), thread[d]);
                Due.due("the glove, sunday " + sunday + ", day 994 and " + d, x.clue(0, 4),
                    d == sunday ? 0 : thread[d]);
                x.days(1);
            }
        }
    }

    private static void alibisAlways() {
        Due.sentence("an alibi always");
        for (int sunday = 0; sunday <= 6; sunday++) {
            for (int off = 0; off <= 1; off++) {
                ClueLeave x = Due.of("c2," + sunday + ";a1,2," + off + ";");
                for (int d = 0; d <= 99; d++) {
                    Due.due("day " + d, x.ahead(d, 1), 1);
                }
                toDay(x, 998);
                Due.due("day 998", x.clue(0, 4), 1);
                x.days(1);
                Due.due("day 999", x.clue(0, 4), 1);
            }
        }
    }

    private static void leaves() {
        Due.sentence("LEAVES: a thread, a glove TELLS; a voice TELLS; a stain, an alibi all others than TELLS");
        for (int s : new int[] {2, 6}) {
            int all = (1 << s) - 1;
            for (int tells = 1; tells <= all; tells++) {
                for (int kind = 1; kind <= 5; kind++) {
                    String text = "c" + s + ",6;" + ".tgvsa".charAt(kind) + tells + ",2,1;";
                    ClueLeave x = Due.of(text);
                    int due = kind <= 3 ? tells : all - tells;
                    Due.due("clue(0, 5) of " + text, x.clue(0, 5), due);
                    Due.due("ahead(0, 0) of " + text, x.ahead(0, 0), due);
                    Due.due("ahead(1, 0) of " + text, x.ahead(1, 0), kind == 5 ? due : all);
                    x.days(1);
                    Due.due("clue(0, 5) when it is off, of " + text, x.clue(0, 5), due);
                }
            }
        }
    }

    private static void bribedLeaves() {
        Due.sentence("a voice all others, if it is BRIBED; who is BRIBED (but a voice) LEAVES all SUSPECTS");
        for (int s : new int[] {2, 6}) {
            int all = (1 << s) - 1;
            for (int tells = 1; tells <= all; tells++) {
                for (int kind = 1; kind <= 5; kind++) {
                    String text = "c" + s + ",6;" + ".tgvsa".charAt(kind) + tells + ",2,1;";
                    ClueLeave x = Due.of(text);
                    x.bribe(0, 1);
                    int due = kind == 3 ? all - tells : all;
                    Due.due("clue(0, 5) of " + text, x.clue(0, 5), due);
                    Due.due("ahead(0, 0) of " + text, x.ahead(0, 0), due);
                    Due.due("ahead(0, 1) of " + text, x.ahead(0, 1), 1);
                }
            }
        }
    }

    private static void leftOfNone() {
        Due.sentence("LEFT: SUSPECTS that all clues AT WORK LEAVE (all, if none is)");
        for (int s = 2; s <= 6; s++) {
            int all = (1 << s) - 1;
            ClueLeave x = Due.of("c" + s + ",0;");
            Due.due("no clue", x.ahead(0, 0), all);
            Due.due("no clue at work", x.ahead(99, 1), 0);
            Due.due("no clue, a day later", x.days(1), all);
            ClueLeave y = Due.of("c" + s + ",0;t1,2,0;g1,2,1;v1,2,0;s" + all + ",2,0;");
            Due.due("all are off", y.ahead(0, 1), 0);
            Due.due("all are off", y.ahead(0, 0), all);
            Due.due("all are at work", y.ahead(1, 0), 0);
            ClueLeave z = Due.of("c" + s + ",0;t1,2,1;a1,2,0;t" + all + ",2,1;");
            Due.due("nobody is left", z.ahead(0, 0), 0);
            Due.due("all others than one", z.ahead(1, 0), all - 1);
        }
    }

    private static void sureAndMean() {
        Due.sentence("A DAY is SURE, if just one is LEFT; MEAN, if none is.");
        ClueLeave x = Due.of("c6,0;t63,2,1;");
        int[] sets = {1, 2, 4, 8, 16, 32, 3, 48, 63, 62};
        for (int set : sets) {
            x.learn(0, set);
            boolean one = Integer.bitCount(set) == 1;
            Due.due("by whom it is sure, of " + set, x.ahead(0, 2), one ? Integer.numberOfTrailingZeros(set) : Due.NONE);
            Due.due("first(0) of " + set, x.first(0), one ? 0 : Due.NONE);
            Due.due("first(1) of " + set, x.first(1), Due.NONE);
        }
        ClueLeave y = Due.of("c6,0;s63,2,1;");
        Due.due("none is left: not sure", y.ahead(0, 2), Due.NONE);
        Due.due("none is left: mean", y.first(1), 0);
        Due.due("none is left: never sure", y.first(0), Due.NONE);
    }

    private static void actsKept() {
        Due.sentence("ACTS (24 at most are kept, of more the oldest is forgotten)");
        for (int n : new int[] {1, 2, 23, 24, 25, 26, 47, 48, 49, 100, 150}) {
            ClueLeave x = Due.of("c6,0;t63,2,0;");
            for (int i = 1; i <= n; i++) {
                x.learn(0, i % 60 + 1);
                Due.due("count(6) behind " + i, x.count(6), Math.min(i, 24));
            }
            int kept = Math.min(n, 24);
            for (int i = 1; i <= kept; i++) {
                Due.due("undo() number " + i + " of " + n, x.undo(), kept - i);
                Due.due("tells behind it", x.clue(0, 0), n == i ? 63 : (n - i) % 60 + 1);
            }
            Due.due("undo() of none, behind " + n, x.undo(), Due.STATE);
        }
    }

    private static void actsOfDays() {
        Due.sentence("a DAY goes by (1 more): an ACT each");
        for (int n : new int[] {1, 2, 23, 24}) {
            ClueLeave x = Due.of("c2,0;t1,2,0;");
            x.learn(0, 2);
            x.days(n);
            Due.due("count(6) behind days(" + n + ")", x.count(6), Math.min(24, n + 1));
            for (int i = 1; i <= n; i++) {
                x.undo();
                Due.due("count(3)", x.count(3), n - i);
                Due.due("tells", x.clue(0, 0), 2);
            }
            Due.due("the lesson is forgotten behind 24 days alone", x.undo(), n == 24 ? Due.STATE : 0);
            Due.due("tells", x.clue(0, 0), n == 24 ? 2 : 1);
        }
    }

    private static void oldestForgotten() {
        Due.sentence("of more the oldest is forgotten (of each kind of ACT)");
        for (int kind = 0; kind < 4; kind++) {
            ClueLeave x = Due.of("c2,0;t1,2,0;");
            act(x, kind);
            for (int i = 0; i < 23; i++) {
                x.learn(0, x.clue(0, 0));
            }
            ClueLeave y = Due.of("c2,0;t1,2,0;");
            act(y, kind);
            for (int i = 0; i < 24; i++) {
                y.learn(0, y.clue(0, 0));
            }
            for (int i = 23; i >= 0; i--) {
                Due.due("the oldest of 24 is kept, kind " + kind, x.undo(), i);
                Due.due("the oldest of 25 is not, kind " + kind, y.undo(), i);
            }
            Due.due("no more", x.undo(), Due.STATE);
            Due.due("no more", y.undo(), Due.STATE);
            Due.due("undone, kind " + kind, sum(x), 1);
            Due.due("not undone, kind " + kind, sum(y), 2);
        }
    }

    private static int sum(ClueLeave x) {
        return x.count(3) + x.count(5) + x.clue(0, 2) + x.clue(0, 0);
    }

    /** Each makes the sum of the DAY, who is BRIBED, OFF and TELLS 2, that was 1. */
    private static void act(ClueLeave x, int kind) {
        switch (kind) {
            case 0: x.days(1); break;
            case 1: x.bribe(0, 1); break;
            case 2: x.learn(0, 2); break;
            default: x.shift(0, 1);
        }
    }

    private static void latestFirst() {
        Due.sentence("each can be undone, the latest first");
        ClueLeave x = Due.of(Due.SIX);
        x.bribe(0, 1);
        x.bribe(5, 1);
        x.bribe(0, 0);
        x.learn(0, 1);
        x.learn(5, 31);
        x.learn(0, 2);
        x.shift(0, 0);
        x.shift(5, 0);
        x.shift(0, 1);
        Due.due("nine acts", x.count(6), 9);
        int[][] due = {{0, 2, 32, 31, 0}, {0, 2, 32, 31, 3}, {1, 2, 32, 31, 3}, {1, 1, 32, 31, 3}, {1, 1, 32, 12, 3},
            {1, 7, 32, 12, 3}, {1, 7, 33, 12, 3}, {1, 7, 1, 12, 3}, {1, 7, 0, 12, 3}};
        for (int i = 0; i < 9; i++) {
            Due.due("undo()", x.undo(), 8 - i);
            Due.due("off of 0 behind " + i, x.clue(0, 2), due[i][0]);
            Due.due("tells of 0 behind " + i, x.clue(0, 0), due[i][1]);
            Due.due("bribed behind " + i, x.count(5), due[i][2]);
            Due.due("tells of 5 behind " + i, x.clue(5, 0), due[i][3]);
            Due.due("off of 5 behind " + i, x.clue(5, 2), due[i][4]);
        }
        Due.due("none is left", x.undo(), Due.STATE);
        x.days(1);
        Due.due("acts behind undone ones", x.count(6), 1);
        Due.due("undone, too", x.undo(), 0);
    }

    private static void nothingBecomesAnother() {
        Due.sentence("also such by which nothing becomes another");
        ClueLeave x = Due.of("c2,0;t1,2,0;");
        x.learn(0, 2);
        Due.due("learn(0, 2) again", x.learn(0, 2), 2);
        Due.due("count(6)", x.count(6), 2);
        Due.due("shift(0, 0), as it is", x.shift(0, 0), 0);
        Due.due("count(6)", x.count(6), 3);
        Due.due("undo() of the shift", x.undo(), 2);
        Due.due("undo() of the second lesson", x.undo(), 1);
        Due.due("it tells as before", x.clue(0, 0), 2);
        Due.due("undo() of the first lesson", x.undo(), 0);
        Due.due("it tells as at first", x.clue(0, 0), 1);
        for (int i = 0; i < 25; i++) {
            x.shift(0, 0);
        }
        Due.due("count(6) behind 25 of them", x.count(6), 24);
    }

    private static void days() {
        Due.sentence("n DAYS (1 to 24), an ACT each: LEFT then (bits).");
        // LEFT of PAIR, from day 0 on: 6 3 6 2 7 2, and so on.
        int[] left = {6, 3, 6, 2, 7, 2};
        for (int n = 1; n <= 24; n++) {
            ClueLeave x = Due.of(Due.PAIR);
            Due.due("days(" + n + ")", x.days(n), left[n % 6]);
            Due.due("count(3)", x.count(3), n);
            Due.due("count(6)", x.count(6), n);
        }
        ClueLeave y = Due.of("c6,0;");
        Due.due("days(24) without clues", y.days(24), 63);
    }

    private static void daysRefused() {
        Due.sentence("days: BAD; STATE: no CITY (ahead of BAD); FULL");
        for (int n : new int[] {MIN_VALUE, -24, -1, 0, 25, 26, 1000, MAX_VALUE}) {
            Twins.refused("days(" + n + ")", x -> x.days(n), Due.STATE, NEW);
            Twins.refused("days(" + n + ")", x -> x.days(n), Due.BAD, BARE, MID);
            Twins.refused("days(" + n + "), ahead of FULL", x -> x.days(n), Due.BAD, PACKED);
        }
        for (int n : new int[] {1, 2, 24}) {
            Twins.refused("days(" + n + ")", x -> x.days(n), Due.STATE, NEW);
            Twins.refused("days(" + n + ") on day 999", x -> x.days(n), Due.FULL, PACKED);
        }
    }

    private static void lastDay() {
        Due.sentence("FULL: beyond DAY 999.");
        for (int n = 1; n <= 24; n++) {
            int many = n;
            ClueLeave x = Due.of(Due.PAIR);
            toDay(x, 999 - n);
            Due.due("days(" + n + ") up to day 999", x.days(n), 2);
            Due.due("count(3)", x.count(3), 999);
            ClueLeave y = Due.of(Due.PAIR);
            toDay(y, 1000 - n);
            Due.due("days(" + n + ") beyond day 999", y.days(n), Due.FULL);
            Due.due("count(3)", y.count(3), 1000 - n);
            Due.due("count(6)", y.count(6), 24);
            if (n > 1) {
                Due.due("days(" + (n - 1) + ") up to day 999", y.days(n - 1), 2);
            }
            Twins.alike("days(" + n + ") refused changes nothing", () -> nearTheEnd(many, 0), () -> nearTheEnd(many, many));
        }
        ClueLeave z = PACKED.made();
        Due.due("undo() on day 999", z.undo(), 23);
        Due.due("day 998", z.count(3), 998);
        Due.due("two days", z.days(2), Due.FULL);
        Due.due("one day", z.days(1), 9);
        Due.due("and no more", z.days(1), Due.FULL);
    }

    /** On the first day from which n days are too many, with some acts. */
    private static ClueLeave nearTheEnd(int n, int refused) {
        ClueLeave x = Due.of(Due.PAIR);
        toDay(x, 1000 - n);
        x.bribe(0, 1);
        if (refused > 0) {
            x.days(refused);
        }
        return x;
    }

    private static void bribe() {
        Due.sentence("A clue is BRIBED (1), or no more (0): which are (bits).");
        ClueLeave x = Due.of(Due.SIX);
        int bribed = 0;
        for (int c = 0; c <= 5; c++) {
            bribed += 1 << c;
            Due.due("bribe(" + c + ", 1)", x.bribe(c, 1), bribed);
            Due.due("clue(" + c + ", 3)", x.clue(c, 3), 1);
            Due.due("count(5)", x.count(5), bribed);
        }
        for (int c = 5; c >= 0; c--) {
            bribed -= 1 << c;
            Due.due("bribe(" + c + ", 0)", x.bribe(c, 0), bribed);
            Due.due("clue(" + c + ", 3)", x.clue(c, 3), 0);
        }
        Due.due("count(6)", x.count(6), 12);
    }

    private static void bribeRefused() {
        Due.sentence("bribe: BAD; STATE: it is so.");
        Twins.refused("bribe(0, 0)", x -> x.bribe(0, 0), Due.BAD, NEW, BARE);
        for (int c : NO_CLUES) {
            Twins.refused("bribe(" + c + ", 1)", x -> x.bribe(c, 1), Due.BAD, NEW, BARE, MID, PACKED);
            Twins.refused("bribe(" + c + ", 0)", x -> x.bribe(c, 0), Due.BAD, NEW, BARE, MID, PACKED);
        }
        for (int on : new int[] {MIN_VALUE, -1, 2, MAX_VALUE}) {
            Twins.refused("bribe(0, " + on + ")", x -> x.bribe(0, on), Due.BAD, MID, PACKED);
            Twins.refused("bribe(2, " + on + ")", x -> x.bribe(2, on), Due.BAD, MID, PACKED);
        }
        Twins.refused("bribe(2, 1), it is", x -> x.bribe(2, 1), Due.STATE, MID);
        Twins.refused("bribe(0, 0), it is not", x -> x.bribe(0, 0), Due.STATE, MID, PACKED);
        Twins.refused("bribe(5, 0), it is not", x -> x.bribe(5, 0), Due.STATE, MID, PACKED);
    }

    private static void learn() {
        Due.sentence("It learns (a set of SUSPECTS, not none): what it TOLD.");
        for (int s = 2; s <= 6; s++) {
            int all = (1 << s) - 1;
            ClueLeave x = Due.of("c" + s + ",0;t1,2,1;a1,2,1;");
            Due.due("learn(0, " + all + ")", x.learn(0, all), 1);
            Due.due("learn(0, 1)", x.learn(0, 1), all);
            Due.due("learn(1, " + all + ")", x.learn(1, all), 1);
            Due.due("nobody is left", x.ahead(0, 0), 0);
            for (int tells : new int[] {MIN_VALUE, -all, -1, 0, all + 1, all + 2, 64, MAX_VALUE}) {
                Due.due("learn(0, " + tells + ") of " + s, x.learn(0, tells), Due.BAD);
            }
            Due.due("it tells as before", x.clue(0, 0), 1);
            Due.due("count(6)", x.count(6), 3);
        }
    }

    private static void learnRefused() {
        Due.sentence("learn: BAD.");
        Twins.refused("learn(0, 1)", x -> x.learn(0, 1), Due.BAD, NEW, BARE);
        for (int c : NO_CLUES) {
            Twins.refused("learn(" + c + ", 1)", x -> x.learn(c, 1), Due.BAD, NEW, BARE, MID, PACKED);
        }
        for (int tells : new int[] {MIN_VALUE, MIN_VALUE + 1, -1, 0, 32, 33, 63, 64, MAX_VALUE}) {
            Twins.refused("learn(0, " + tells + ") of five", x -> x.learn(0, tells), Due.BAD, MID, PACKED);
        }
    }

    private static void shift() {
        Due.sentence("OFF is v (0 to EVERY less 1): what it was.");
        for (int every = 2; every <= 4; every++) {
            int last = every - 1;
            ClueLeave x = Due.of("c2,0;a1," + every + ",1;t1," + every + ",0;");
            Due.due("shift(1, " + last + ")", x.shift(1, last), 0);
            Due.due("off on the last day of all", x.ahead(last, 1), 1);
            Due.due("at work on the first", x.ahead(0, 1), 3);
            Due.due("shift(1, 0)", x.shift(1, 0), last);
            Due.due("off on the first", x.ahead(0, 1), 1);
            Due.due("shift(0, 0), of an alibi", x.shift(0, 0), 1);
            Due.due("it is at work", x.clue(0, 4), 1);
            for (int v : new int[] {MIN_VALUE, -1, every, every + 1, MAX_VALUE}) {
                Due.due("shift(1, " + v + ") of every " + every, x.shift(1, v), Due.BAD);
            }
            Due.due("it is off as before", x.clue(1, 2), 0);
            Due.due("count(6)", x.count(6), 3);
        }
    }

    private static void shiftRefused() {
        Due.sentence("shift: BAD.");
        Twins.refused("shift(0, 0)", x -> x.shift(0, 0), Due.BAD, NEW, BARE);
        for (int c : NO_CLUES) {
            Twins.refused("shift(" + c + ", 0)", x -> x.shift(c, 0), Due.BAD, NEW, BARE, MID, PACKED);
        }
        for (int v : new int[] {MIN_VALUE, -1, 2, 3, MAX_VALUE}) {
            Twins.refused("shift(0, " + v + ") of every 2", x -> x.shift(0, v), Due.BAD, MID, PACKED);
        }
        for (int v : new int[] {MIN_VALUE, -1, 4, 5, MAX_VALUE}) {
            Twins.refused("shift(5, " + v + ") of every 4", x -> x.shift(5, v), Due.BAD, MID, PACKED);
        }
    }

    private static void undo() {
        Due.sentence("The latest ACT is undone: how many can be undone yet.");
        ClueLeave x = PACKED.made();
        for (int i = 23; i >= 0; i--) {
            Due.due("undo()", x.undo(), i);
            Due.due("count(6)", x.count(6), i);
            Due.due("count(3)", x.count(3), 975 + i);
        }
        Due.due("undo() of none", x.undo(), Due.STATE);
        Due.due("count(3)", x.count(3), 975);
        Due.due("up to day 999 again", x.days(24), 9);
        Due.due("undo()", x.undo(), 23);
        ClueLeave y = MID.made();
        int[] day = {3, 3, 3, 2, 1, 0, 0};
        int[] bribed = {4, 4, 4, 4, 4, 4, 0};
        for (int i = 0; i < 7; i++) {
            Due.due("undo() of MID", y.undo(), 6 - i);
            Due.due("count(3)", y.count(3), day[i]);
            Due.due("count(5)", y.count(5), bribed[i]);
        }
        Due.due("off of 5", y.clue(5, 2), 3);
        Due.due("tells of 1", y.clue(1, 0), 22);
    }

    private static ClueLeave undoneMid() {
        ClueLeave x = MID.made();
        for (int i = 0; i < 7; i++) {
            x.undo();
        }
        return x;
    }

    private static void undoRefused() {
        Due.sentence("undo: STATE: none.");
        Twins.refused("undo()", x -> x.undo(), Due.STATE, NEW, BARE);
        Twins.alike("undo() of none", () -> undoneMid(), () -> {
            ClueLeave x = undoneMid();
            Due.due("undo() of none", x.undo(), Due.STATE);
            Due.due("undo() of none again", x.undo(), Due.STATE);
            return x;
        });
    }

    private static void clue() {
        Due.sentence("Of a clue: 0 TELLS, 1 EVERY, 2 OFF, 3 whether BRIBED, 4 whether AT WORK, 5 whom it LEAVES");
        int[][] mid = {{7, 2, 1, 0, 0, 7}, {5, 3, 0, 0, 0, 5}, {25, 4, 2, 1, 1, 6}, {2, 2, 0, 0, 1, 29},
            {16, 3, 1, 0, 1, 15}, {12, 4, 0, 0, 1, 12}};
        int[][] packed = {{7, 2, 1, 0, 0, 7}, {22, 3, 0, 0, 0, 22}, {25, 4, 2, 0, 1, 25}, {2, 2, 0, 0, 1, 29},
            {16, 3, 1, 0, 1, 15}, {12, 4, 3, 0, 0, 12}};
        for (int c = 0; c <= 5; c++) {
            for (int what = 0; what <= 5; what++) {
                int one = c;
                int asked = what;
                Twins.told("clue(" + c + ", " + what + ")", x -> x.clue(one, asked), mid[c][what], MID);
                Twins.told("clue(" + c + ", " + what + ")", x -> x.clue(one, asked), packed[c][what], PACKED);
            }
        }
    }

    private static void clueRefused() {
        Due.sentence("clue: BAD.");
        for (int what = 0; what <= 5; what++) {
            int asked = what;
            Twins.refused("clue(0, " + what + ")", x -> x.clue(0, asked), Due.BAD, NEW, BARE);
            for (int c : NO_CLUES) {
                Twins.refused("clue(" + c + ", " + what + ")", x -> x.clue(c, asked), Due.BAD, NEW, BARE, MID, PACKED);
            }
        }
        for (int what : new int[] {MIN_VALUE, -1, 6, 7, MAX_VALUE}) {
            Twins.refused("clue(0, " + what + ")", x -> x.clue(0, what), Due.BAD, NEW, BARE, MID, PACKED);
            Twins.refused("clue(5, " + what + ")", x -> x.clue(5, what), Due.BAD, MID, PACKED);
        }
        ClueLeave x = Due.of("c2,0;t1,2,0;");
        Due.due("clue(0, 0) of one", x.clue(0, 0), 1);
        Due.due("clue(1, 0) of one", x.clue(1, 0), Due.BAD);
    }
}
