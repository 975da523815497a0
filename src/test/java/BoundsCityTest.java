import static java.lang.Integer.MAX_VALUE;
import static java.lang.Integer.MIN_VALUE;

/** Section 1 of the terms, its TEXTS and FAULTS, and promises 6 to 8: each sentence at its bounds. */
public final class BoundsCityTest {
    private static final Twins.State[] ALL = Twins.State.values();
    private static final Twins.State MID = Twins.State.MID, PACKED = Twins.State.PACKED;
    /** As wide as a text can be: 65 bytes, six clues. */
    private static final String WIDEST = "c6,6;t63,04,03;g63,04,03;v63,04,03;s63,04,03;a63,04,03;t63,04,03;";
    private static final String SIX_SHORT = "c2,0;t1,2,0;g1,2,0;v1,2,0;s1,2,0;a1,2,0;t1,2,0;";

    public static void main(String[] args) {
        room();
        bytes();
        emptyTape();
        tapeEmptied();
        lettersByThemselves();
        numbers();
        signs();
        noBlanks();
        suspects();
        sundays();
        sorts();
        tells();
        every();
        off();
        clues();
        inPlace();
        behindAnotherCity();
        firstToken();
        leastOfOne();
        threeFigures();
        ends();
        tooMany();
        allStays();
        latestFault();
        Due.end("BoundsCityTest");
    }

    private static void reads(String text, int due) {
        ClueLeave x = new ClueLeave();
        Due.due("city() of " + text, Due.read(x, text), due);
        Due.due("fault() behind " + text, x.fault(), 0);
        Due.due("count(1) behind " + text, x.count(1), due);
        Due.due("count(7) behind " + text, x.count(7), 0);
    }

    private static void fault(String text, int place, int number) {
        ClueLeave x = new ClueLeave();
        Due.due("city() of " + text, Due.read(x, text), -1000100 - place);
        Due.due("fault() behind " + text, x.fault(), number);
        Due.due("count(2) behind " + text, x.count(2), 0);
        Due.due("count(7) behind " + text, x.count(7), 0);
    }

    private static void room() {
        Due.sentence("THE TAPE has at most 100 bytes, that come one by one");
        ClueLeave x = new ClueLeave();
        for (int round = 0; round < 2; round++) {
            for (int i = 1; i <= 100; i++) {
                Due.due("feed() number " + i, x.feed(';'), i);
                Due.due("count(7)", x.count(7), i);
            }
            Due.due("feed() number 101", x.feed(';'), Due.FULL);
            Due.due("feed() number 102", x.feed('c'), Due.FULL);
            Due.due("count(7)", x.count(7), 100);
            Due.due("city()", x.city(), -1000100);
            Due.due("count(7)", x.count(7), 0);
        }
        Twins.refused("feed() of a full tape", y -> y.feed('c'), Due.FULL, PACKED);
        Twins.refused("feed(0) of a full tape", y -> y.feed(0), Due.FULL, PACKED);
        Twins.refused("feed(255) of a full tape", y -> y.feed(255), Due.FULL, PACKED);
        ClueLeave z = new ClueLeave();
        Due.feed(z, WIDEST + " ".repeat(34));
        Due.due("the byte at place 99", z.feed(' '), 100);
        Due.due("city() of 100 bytes", z.city(), -1000165);
        Due.due("fault()", z.fault(), 1);
    }

    private static void bytes() {
        Due.sentence("A byte (0 to 255) comes behind the tape: how many it has. BAD; FULL.");
        for (int letter : new int[] {MIN_VALUE, -256, -1, 256, 257, 256 + 'c', MAX_VALUE}) {
            Twins.refused("feed(" + letter + "), ahead of FULL, too", x -> x.feed(letter), Due.BAD, ALL);
        }
        for (int letter : new int[] {0, 1, 127, 128, 254, 255}) {
            ClueLeave x = new ClueLeave();
            Due.due("feed(" + letter + ")", x.feed(letter), 1);
            Due.due("it is no token", x.city(), -1000100);
            Due.due("fault()", x.fault(), 1);
            Due.feed(x, "c2,0;");
            Due.due("feed(" + letter + ")", x.feed(letter), 6);
            Due.due("nor behind others", x.city(), -1000105);
            Due.due("fault()", x.fault(), 1);
        }
    }

    private static void emptyTape() {
        Due.sentence("The tape is read (of an empty one, the end: how many bytes there are)");
        ClueLeave x = new ClueLeave();
        Due.due("city() of nothing", x.city(), -1000100);
        Due.due("fault()", x.fault(), 1);
        Due.due("city() of nothing again", x.city(), -1000100);
        Due.due("count(2)", x.count(2), 0);
        ClueLeave y = Due.of(Due.PAIR);
        Due.due("city() of nothing behind a city", y.city(), -1000100);
        Due.due("the city stays", y.count(1), 2);
    }

    private static void tapeEmptied() {
        Due.sentence("The tape, empty then, is read: how many CLUES there are.");
        reads("c2,0;", 0);
        reads("c2,0;a1,2,0;", 1);
        reads(SIX_SHORT, 6);
        reads(WIDEST, 6);
        ClueLeave x = Due.of("c2,0;");
        Due.due("what was read is on the tape no more", x.city(), -1000100);
        Due.due("nor what had a fault", Due.read(x, "c2,0;t"), -1000106);
        Due.due("feed()", x.feed('c'), 1);
        Due.due("it is alone", x.city(), -1000101);
    }

    /** All bytes that can stand at a place behind a text that is sound so far. */
    private static void each(String ahead, String fine, String wrongNumber) {
        for (int b = 0; b < 256; b++) {
            ClueLeave x = new ClueLeave();
            Due.feed(x, ahead);
            x.feed(b);
            boolean isFine = fine.indexOf(b) >= 0;
            String call = "byte " + b + " behind " + ahead;
            Due.due(call, x.city(), -1000100 - ahead.length() - (isFine ? 1 : 0));
            Due.due(call + ", fault()", x.fault(), wrongNumber.indexOf(b) >= 0 ? 2 : 1);
        }
    }

    private static void lettersByThemselves() {
        Due.sentence("TOKENS: letters a to z (each by itself), NUMBERS, SIGNS , and ; nothing else");
        each("", "c", "");
        each("c", "23456", "01789");
        each("c2,", "0123456", "789");
        each("c2,0;", "tgvsa", "");
        each("c3,0;t", "1234567", "089");
        each("c3,0;t7,", "234", "0156789");
        each("c3,0;t7,3,", "012", "3456789");
        fault("cc2,0;", 1, 1);
        fault("c2,0;tt1,2,0;", 6, 1);
        fault("c2,0;ta1,2,0;", 6, 1);
        fault("c2,0;T1,2,0;", 5, 1);
        fault("`2,0;", 0, 1);
        fault("{2,0;", 0, 1);
    }

    private static void numbers() {
        Due.sentence("NUMBERS (figures, 2 at most)");
        reads("c2,0;", 0);
        reads("c02,00;", 0);
        reads("c06,06;t01,02,01;", 1);
        fault("c002,0;", 1, 1);
        fault("c2,000;", 3, 1);
        fault("c2,0;t001,2,0;", 6, 1);
        fault("c2,0;t1,002,0;", 8, 1);
        fault("c2,0;t1,2,000;", 10, 1);
        fault("c2/0;", 2, 1);
        fault("c:,0;", 1, 1);
        fault("c/,0;", 1, 1);
        fault("c,0;", 1, 1);
        fault("c2,;", 3, 1);
        fault("c-2,0;", 1, 1);
    }

    private static void signs() {
        Due.sentence("SIGNS , and ;");
        fault("c2;0;", 2, 1);
        fault("c2,0,", 4, 1);
        fault("c2,,0;", 3, 1);
        fault("c2,0;;", 5, 1);
        fault("c2,0;,", 5, 1);
        fault("c2,0;t1;2,0;", 7, 1);
        fault("c2,0;t1,2;0;", 9, 1);
        fault("c2,0;t1,2,0,", 11, 1);
        fault("c2,0;t1,2,0;;", 12, 1);
        fault(",", 0, 1);
        fault(";", 0, 1);
    }

    private static void noBlanks() {
        Due.sentence("nothing else, no blanks");
        String text = "c4,0;t15,2,1;s12,3,01;";
        for (int other : new int[] {' ', '\n', '\t', 0, 'A', '.', 160}) {
            for (int at = 0; at <= text.length(); at++) {
                ClueLeave x = new ClueLeave();
                Due.feed(x, text.substring(0, at));
                x.feed(other);
                Due.feed(x, text.substring(at));
                Due.due("byte " + other + " at place " + at, x.city(), -1000100 - at);
                Due.due("fault()", x.fault(), 1);
            }
        }
    }

    private static void suspects() {
        Due.sentence("c SUSPECTS (2 to 6: SUSPECTS 0, 1, ..)");
        for (int s = 0; s <= 99; s++) {
            String text = "c" + s + ",0;";
            if (s >= 2 && s <= 6) {
                reads(text, 0);
                ClueLeave x = Due.of(text);
                Due.due("count(2) of " + text, x.count(2), s);
                Due.due("all are left of " + text, x.ahead(0, 0), (1 << s) - 1);
            } else {
                fault(text, 1, 2);
            }
        }
    }

    private static void sundays() {
        Due.sentence("SUNDAY (0 to 6)");
        for (int s = 0; s <= 99; s++) {
            String text = "c2," + s + ";";
            if (s <= 6) {
                reads(text, 0);
                Due.due("count(4) of " + text, Due.of(text).count(4), s);
            } else {
                fault(text, 3, 2);
            }
        }
    }

    private static void sorts() {
        Due.sentence("SORT: t a thread, g a glove, v a voice, s a stain, a an alibi");
        for (char letter = 'a'; letter <= 'z'; letter++) {
            String text = "c2,0;" + letter + "1,2,0;";
            int kind = ".tgvsa".indexOf(letter);
            if (kind > 0) {
                reads(text, 1);
                Due.due("kind(0) of " + text, Due.of(text).kind(0), kind);
            } else {
                fault(text, 5, 1);
            }
        }
    }

    private static void tells() {
        Due.sentence("a set of SUSPECTS, bits, there are, not none");
        for (int s = 2; s <= 6; s++) {
            int all = (1 << s) - 1;
            for (int set = 0; set <= 99; set++) {
                String text = "c" + s + ",0;t" + set + ",2,0;";
                if (set >= 1 && set <= all) {
                    reads(text, 1);
                    Due.due("clue(0, 0) of " + text, Due.of(text).clue(0, 0), set);
                } else {
                    fault(text, 6, 2);
                }
            }
        }
    }

    private static void every() {
        Due.sentence("EVERY: 2 to 4");
        for (int every = 0; every <= 99; every++) {
            String text = "c2,0;v3," + every + ",0;";
            if (every >= 2 && every <= 4) {
                reads(text, 1);
                Due.due("clue(0, 1) of " + text, Due.of(text).clue(0, 1), every);
            } else {
                fault(text, 8, 2);
            }
        }
    }

    private static void off() {
        Due.sentence("OFF: 0 to EVERY less 1");
        for (String sort : new String[] {"t", "g", "v", "s", "a"}) {
            for (int every = 2; every <= 4; every++) {
                for (int off : new int[] {0, 1, 2, 3, 4, 5, 10, 99}) {
                    String text = "c2,0;" + sort + "3," + every + "," + off + ";";
                    if (off < every) {
                        reads(text, 1);
                        Due.due("clue(0, 2) of " + text, Due.of(text).clue(0, 2), off);
                    } else {
                        fault(text, 10, 2);
                    }
                }
            }
        }
    }

    private static void clues() {
        Due.sentence("CLUES 0 .. 5, 6 at most");
        StringBuilder text = new StringBuilder("c2,0;");
        for (int n = 0; n <= 6; n++) {
            reads(text.toString(), n);
            ClueLeave x = Due.of(text.toString());
            Due.due("clue " + (n - 1) + " of " + n, x.clue(n - 1, 1), n == 0 ? Due.BAD : 2);
            Due.due("clue " + n + " of " + n, x.clue(n, 1), Due.BAD);
            text.append("t1,2,0;");
        }
        fault(text.toString(), 47, 3);
    }

    private static void inPlace() {
        Due.sentence("A CITY that is read stands in place of the one before: DAY 0, nothing is BRIBED; no ACT can be undone");
        ClueLeave x = PACKED.made();
        x.city();
        x.bribe(5, 1);
        Due.due("city()", Due.read(x, "c2,1;t1,2,0;"), 1);
        int[] due = {8, 1, 2, 0, 1, 0, 0, 0};
        for (int what = 0; what <= 7; what++) {
            Due.due("count(" + what + ")", x.count(what), due[what]);
        }
        Due.due("undo()", x.undo(), Due.STATE);
        Due.due("no second clue", x.clue(1, 0), Due.BAD);
        Due.due("the first is another", x.clue(0, 0), 1);
        Due.due("bribe(0, 0)", x.bribe(0, 0), Due.STATE);
        Due.due("six clues again", Due.read(x, Due.SIX), 6);
        Due.due("the last is not bribed", x.clue(5, 3), 0);
        Due.due("nor is any", x.count(5), 0);
        Due.due("none at all", Due.read(x, "c2,0;"), 0);
        Due.due("nobody is ruled out", x.ahead(0, 0), 3);
        Due.due("the same text again: still day 0", Due.read(x, "c2,0;"), 0);
    }

    private static ClueLeave midBehindText() {
        ClueLeave x = MID.made();
        x.city();
        return x;
    }

    private static void behindAnotherCity() {
        Due.sentence("IMAGES and ROWS stay");
        ClueLeave x = midBehindText();
        Due.due("count(0)", x.count(0), 4);
        Due.due("status() stays, too", x.status(), 4);
        Due.due("the trace stays, too", x.trace(5), 20);
        Due.due("drop(0)", x.drop(0), 6);
        Due.due("drop(1)", x.drop(1), 40);
        Due.due("drop(2)", x.drop(2), 0);
        Due.due("drop(3)", x.drop(3), Due.NULL);
        Due.due("restore(1)", x.restore(1), Due.STATE);
        Due.due("restore(0)", x.restore(0), 1);
        Due.due("six clues", x.count(1), 6);
        Due.due("day 0", x.count(3), 0);
        ClueLeave y = midBehindText();
        Due.read(y, Due.READER);
        for (int i = 0; i < 6; i++) {
            Due.due("item " + i, y.bribes(0, i, 1), 1 << i);
        }
        Due.due("item 39 of row 1", y.bribes(1, 39, 1), 32);
    }

    private static void firstToken() {
        Due.sentence("FAULTS, the first TOKEN that has one (its first byte)");
        fault("c9,9;t99,9,9;", 1, 2);
        fault("c2,9;t99,9,9;", 3, 2);
        fault("c2,0;t99,9,9;", 6, 2);
        fault("c2,0;t03,9,9;", 9, 2);
        fault("c2,0;t03,04,9;", 12, 2);
        fault("c2,0;t03,04,03", 14, 1);
        fault("c9,999;", 1, 2);
        fault("c999,9;", 1, 1);
        fault("c02,99;", 4, 2);
        fault("c10", 1, 2);
        fault("c20,0;", 1, 2);
        fault("c2,10;", 3, 2);
        fault("c2,0;t10,2,0;", 6, 2);
        fault("c2,0;t1,20,0;", 8, 2);
        fault("c2,0;t1,2,10;", 10, 2);
    }

    private static void leastOfOne() {
        Due.sentence("of one TOKEN the least: 1 it cannot stand there, or is none; 2 a NUMBER that is not as told; 3 a clue more");
        fault("c999", 1, 1);
        fault("c2,0;t3,999,0;", 8, 1);
        fault("99,0;", 0, 1);
        fault("c2,0;99", 5, 1);
        fault("c2,99999;", 3, 1);
        for (String other : new String[] {"x", "c", "T", ";", ",", "1", "99", "999", " ", "b", "z"}) {
            fault(SIX_SHORT + other, 47, 1);
        }
    }

    private static void threeFigures() {
        Due.sentence("a run of three figures, at its first");
        fault("c222,0;", 1, 1);
        fault("c2222,0;", 1, 1);
        fault("c2,0;t1,2,111", 10, 1);
        fault("222", 0, 1);
        fault("c2222222222222222222222222222222222222222,0;", 1, 1);
        // Such numbers wrap around to 2 and to 0, of 32 bits and of 64.
        fault("c4294967298,0;", 1, 1);
        fault("c2,4294967296;", 3, 1);
        fault("c18446744073709551618,0;", 1, 1);
        fault("c" + "2".repeat(99), 1, 1);
        fault("2".repeat(100), 0, 1);
    }

    private static void ends() {
        Due.sentence("the end: how many bytes there are");
        for (int n = 0; n <= Due.SIX.length(); n++) {
            String text = Due.SIX.substring(0, n);
            if (text.endsWith(";")) {
                reads(text, text.split(";").length - 1);
            } else {
                fault(text, n, 1);
            }
        }
        fault(WIDEST.substring(0, 64), 64, 1);
    }

    private static void tooMany() {
        Due.sentence("3 a clue more than there is room for (its letter)");
        for (String letter : new String[] {"t", "g", "v", "s", "a"}) {
            fault(SIX_SHORT + letter, 47, 3);
            fault(SIX_SHORT + letter + "1,2,0;", 47, 3);
            fault(SIX_SHORT + letter + "0,9,999;", 47, 3);
            fault(SIX_SHORT + letter + letter, 47, 3);
            fault(WIDEST + letter, 65, 3);
        }
        fault(WIDEST + "t63,04,03;".repeat(3), 65, 3);
    }

    private static ClueLeave midWithNoText(String wrong) {
        ClueLeave x = MID.made();
        x.city();
        x.restore(0);
        x.bribe(2, 1);
        x.days(3);
        x.learn(1, 5);
        if (wrong != null) {
            Due.read(x, wrong);
        }
        return x;
    }

    private static void allStays() {
        Due.sentence("-1000100 less the place of a FAULT: all but the tape, that is empty then, and what fault() tells stays.");
        // fault() is 1 ahead of them, and behind them.
        for (String wrong : new String[] {"", "c", "c2,0", "c6,6;t63,4,3;x", SIX_SHORT + "x", "c2,0;t1,2,111;"}) {
            Twins.alike("behind the fault of " + wrong, () -> midWithNoText(null), () -> midWithNoText(wrong));
        }
        ClueLeave x = MID.made();
        Due.feed(x, "t9,2,0;");
        Due.due("a fault in the last clue", x.city(), -1000113);
        Due.due("fault()", x.fault(), 2);
        Due.due("status() stays", x.status(), 4);
        Due.due("five clues there were", x.count(1), 6);
        Due.due("and five suspects", x.count(2), 5);
        Due.due("undo()", x.undo(), 6);
        ClueLeave y = new ClueLeave();
        Due.due("a fault in the first text", Due.read(y, "c2,0;t1,2,2;"), -1000110);
        Due.due("there is no city yet", y.days(1), Due.STATE);
        Due.due("nor a clue", y.clue(0, 0), Due.BAD);
        Due.due("nor a suspect", y.when(0, 1), Due.BAD);
    }

    private static void latestFault() {
        Due.sentence("The number of the latest FAULT; 0 before one.");
        ClueLeave x = new ClueLeave();
        Due.due("fault() of a new object", x.fault(), 0);
        Due.feed(x, "c9,0;");
        Due.due("fault() ahead of city()", x.fault(), 0);
        x.city();
        Due.due("fault()", x.fault(), 2);
        Due.read(x, SIX_SHORT + "t");
        Due.due("fault()", x.fault(), 3);
        Due.read(x, "c2,0;");
        Due.due("fault() behind a text without one", x.fault(), 3);
        x.feed(256);
        x.set(0, 0, 0);
        Due.due("fault() behind what was refused or found", x.fault(), 3);
        x.city();
        Due.due("fault()", x.fault(), 1);
        Due.read(x, "c1");
        Due.due("fault()", x.fault(), 2);
        for (Twins.State state : ALL) {
            Twins.told("fault()", y -> y.fault(), state == MID ? 1 : 0, state);
        }
    }
}
