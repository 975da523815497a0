/** Promises 6 to 8: the tape, the text, its faults. */
public final class CityTest {
    public static void main(String[] args) {
        feeds();
        reads();
        faults();
        faultsOfLaw();
        faultsOfClues();
        leastAndFirst();
        whatStays();
        readAnew();
        readBehindOthers();
        Due.end("CityTest");
    }

    private static void feeds() {
        ClueLeave x = new ClueLeave();
        Due.due("6: feed(-1)", x.feed(-1), Due.BAD);
        Due.due("6: feed(256)", x.feed(256), Due.BAD);
        for (int i = 1; i <= 100; i++) {
            Due.due("6: feed " + i, x.feed(i % 2 == 0 ? 255 : 0), i);
        }
        Due.due("6: feed 101", x.feed(99), Due.FULL);
        Due.due("6: BAD ahead of FULL", x.feed(256), Due.BAD);
        Due.due("6: count(7)", x.count(7), 100);
        Due.due("7: a full tape is read", x.city(), -1000100);
        Due.due("6: feed on the empty tape", x.feed(99), 1);
    }

    private static void reads() {
        ClueLeave x = new ClueLeave();
        Due.due("7: no clue", Due.read(x, "c2,0;"), 0);
        Due.due("7: suspects", x.count(2), 2);
        Due.due("7: sunday", x.count(4), 0);
        Due.due("7: tape", x.count(7), 0);
        Due.due("7: nobody is ruled out", x.ahead(0, 0), 3);
        Due.due("7: widest", Due.read(x, "c6,6;t63,4,3;g01,02,00;"), 2);
        Due.due("7: suspects", x.count(2), 6);
        Due.due("7: sunday", x.count(4), 6);
        Due.due("7: tells", x.clue(0, 0), 63);
        Due.due("7: every", x.clue(0, 1), 4);
        Due.due("7: off", x.clue(0, 2), 3);
        Due.due("7: tells 01", x.clue(1, 0), 1);
        Due.due("7: every 02", x.clue(1, 1), 2);
        Due.due("7: off 00", x.clue(1, 2), 0);
        Due.due("7: six clues", Due.read(x, Due.SIX), 6);
        int[] kinds = {1, 2, 3, 4, 5, 1};
        for (int i = 0; i < 6; i++) {
            Due.due("7: kind " + i, x.kind(i), kinds[i]);
        }
        Due.due("8: no fault yet", x.fault(), 0);
    }

    private static void fault(String text, int place, int number) {
        ClueLeave x = new ClueLeave();
        Due.due("7: " + text, Due.read(x, text), -1000100 - place);
        Due.due("8: " + text, x.fault(), number);
    }

    private static void faults() {
        fault("", 0, 1);
        fault("C2,0;", 0, 1);
        fault(" c2,0;", 0, 1);
        fault("c 2,0;", 1, 1);
        fault("cc", 1, 1);
        fault("5", 0, 1);
        fault(";", 0, 1);
        fault("\u0000", 0, 1);
        fault("\u00ff", 0, 1);
    }

    private static void faultsOfLaw() {
        fault("c1,0;", 1, 2);
        fault("c7,0;", 1, 2);
        fault("c99", 1, 2);
        fault("c006,0;", 1, 1);
        fault("c99999999999999999999,0;", 1, 1);
        fault("c2", 2, 1);
        fault("c2;0;", 2, 1);
        fault("c2,", 3, 1);
        fault("c2,;", 3, 1);
        fault("c2,7;", 3, 2);
        fault("c2,0", 4, 1);
        fault("c2,0,", 4, 1);
        fault("c02,00;x", 7, 1);
        fault("c2,0;;", 5, 1);
        fault("c2,0;1", 5, 1);
        fault("c2,0;c2,0;", 5, 1);
        fault("c2,0;/1,2,0;", 5, 1);
        fault("c2,:;", 3, 1);
        fault("c2,/;", 3, 1);
    }

    private static void faultsOfClues() {
        fault("c2,0;t", 6, 1);
        fault("c2,0;t0,2,0;", 6, 2);
        fault("c2,0;t4,2,0;", 6, 2);
        fault("c2,0;t3", 7, 1);
        fault("c2,0;t3;", 7, 1);
        fault("c2,0;t3,1,0;", 8, 2);
        fault("c2,0;t3,5,0;", 8, 2);
        fault("c2,0;t3,222,0;", 8, 1);
        fault("c2,0;t3,2", 9, 1);
        fault("c2,0;t3,2;", 9, 1);
        fault("c2,0;t3,2,2;", 10, 2);
        fault("c2,0;t3,3,3;", 10, 2);
        fault("c2,0;t3,4,4;", 10, 2);
        fault("c2,0;t3,2,000;", 10, 1);
        fault("c2,0;t3,2,0", 11, 1);
        fault("c2,0;t3,2,0,", 11, 1);
        fault("c2,0;tt3,2,0;", 6, 1);
        fault("c6,0;a63,4,3;s63,4,3;x", 21, 1);
        fault("c6,0;a64,4,3;", 6, 2);
    }

    private static void leastAndFirst() {
        String six = "c2,0;t1,2,0;t1,2,0;t1,2,0;t1,2,0;t1,2,0;t1,2,0;";
        ClueLeave x = new ClueLeave();
        Due.due("7: six", Due.read(x, six), 6);
        fault(six + "t1,2,0;", 47, 3);
        fault(six + "t", 47, 3);
        fault(six + "a0,9,9;", 47, 3);
        fault(six + "x", 47, 1);
        fault(six + "c", 47, 1);
        fault(six + ";", 47, 1);
        fault("c9,9;x", 1, 2);
        fault("c2,0;t9,9,9;", 6, 2);
        fault("c999,9;", 1, 1);
    }

    private static void whatStays() {
        ClueLeave x = Due.of(Due.PAIR);
        x.days(3);
        x.bribe(0, 1);
        x.image(0);
        x.ask(0, 0);
        Due.due("7: a fault", Due.read(x, "c2,0;t1"), -1000107);
        Due.due("7: the tape is empty", x.count(7), 0);
        Due.due("7: the clues stay", x.count(1), 2);
        Due.due("7: the suspects stay", x.count(2), 3);
        Due.due("7: the day stays", x.count(3), 3);
        Due.due("7: the bribes stay", x.count(5), 1);
        Due.due("7: the acts stay", x.count(6), 4);
        Due.due("7: the trace stays", x.trace(0), 11);
        Due.due("8: fault()", x.fault(), 1);
        Due.due("7: read anew", Due.read(x, "c2,1;v1,2,0;"), 1);
        Due.due("8: fault() is the latest", x.fault(), 1);
        Due.due("7: another fault", Due.read(x, "c0"), -1000101);
        Due.due("8: fault()", x.fault(), 2);
        Due.due("7: what was read stays", x.count(4), 1);
    }

    private static void readAnew() {
        ClueLeave x = Due.of(Due.SIX);
        x.row(5, 2, 9);
        x.days(3);
        x.bribe(1, 1);
        x.image(1);
        // What was foretold ahead of a text is no part of what it tells.
        x.rota(3, -1);
        x.fits(0, 5, 0, 9, 0);
        x.set(5, 9, 0);
        Due.due("7: another city", Due.read(x, Due.PAIR), 2);
        Due.due("7: status() stays", x.status(), 2);
        Due.due("7: day 0", x.count(3), 0);
        Due.due("7: nothing is bribed", x.count(5), 0);
        Due.due("7: no act", x.count(6), 0);
        Due.due("7: undo()", x.undo(), Due.STATE);
        Due.due("7: rows stay", x.count(0), 1);
        Due.due("7: no third clue", x.clue(2, 0), Due.BAD);
        Due.due("7: images stay", x.restore(1), 1);
        Due.due("7: as the image kept it", x.count(3), 3);
        Due.due("7: as the image kept it", x.count(1), 6);
        Due.due("5: rows stay", x.drop(5), 9);
    }

    /** A tape may be full to its last byte, and bytes of a longer tape before may lie behind its end. */
    private static void readBehindOthers() {
        StringBuilder figures = new StringBuilder("c");
        for (int i = 1; i < 100; i++) {
            figures.append('2');
        }
        ClueLeave x = new ClueLeave();
        Due.due("7: 99 figures", Due.read(x, figures.toString()), -1000101);
        Due.due("8: fault()", x.fault(), 1);
        Due.due("7: c2, figures behind its end", Due.read(x, "c2"), -1000102);
        Due.due("7: c2,", Due.read(x, "c2,"), -1000103);
        Due.due("7: c2,0", Due.read(x, "c2,0"), -1000104);
        Due.due("7: c2,0;", Due.read(x, "c2,0;"), 0);
        // Six clues of two figures each, and blanks up to the last byte: the first of them is none.
        String text = "c6,6;t63,04,03;g63,04,03;v63,04,03;s63,04,03;a63,04,03;t63,04,03;";
        Due.due("7: the widest text", Due.read(x, text), 6);
        Due.due("7: a full tape", Due.read(x, text + " ".repeat(100 - text.length())), -1000100 - text.length());
        Due.due("8: fault()", x.fault(), 1);
    }
}
