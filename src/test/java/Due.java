/** What the tests share: answers that are due, texts fed to a tape. */
final class Due {
    /** Worked out by hand: from day 0 on, 6 3 6 2 7 2 are left, and so on anew; 2 is sure by suspect 1. */
    static final String PAIR = "c3,0;t3,2,0;v6,3,1;";
    /** One clue of each kind, and a second thread. */
    static final String SIX = "c5,3;t7,2,1;g22,3,0;v25,4,2;s2,2,0;a16,3,1;t12,4,3;";
    /** Nobody is left; suspect c is, if clue c is bribed: so bribes() tells of one ITEM whether it is 0 or a power of 2. */
    static final String READER = "c6,0;a1,2,0;a2,2,0;a4,2,0;a8,2,0;a16,2,0;a32,2,0;";

    static final int NONE = -1000000, BAD = -1000001, STATE = -1000002, FULL = -1000003;
    static final int NULL = -1000011, PLACE = -1000012, KIND = -1000013, SIZE = -1000014, STORE = -1000015;

    private static int wrong;
    private static int asked;
    private static int sentences;
    private static String words = "";

    private Due() {
    }

    /** The words of the document that the answers from here on are due by. */
    static void sentence(String quoted) {
        words = " [" + quoted + "]";
        sentences++;
    }

    static void due(String call, long got, long want) {
        asked++;
        if (got != want) {
            wrong++;
            if (wrong <= 40) {
                System.out.println(call + " answered " + got + ", due is " + want + words);
            }
        }
    }

    static void feed(ClueLeave x, String text) {
        for (int i = 0; i < text.length(); i++) {
            x.feed(text.charAt(i));
        }
    }

    static int read(ClueLeave x, String text) {
        feed(x, text);
        return x.city();
    }

    static ClueLeave of(String text) {
        ClueLeave x = new ClueLeave();
        read(x, text);
        return x;
    }

    static void end(String name) {
        String told = sentences == 0 ? "" : sentences + " sentences, ";
        System.out.println(name + ": " + told + asked + " answers, " + wrong + " not as due");
        if (wrong != 0) {
            System.exit(1);
        }
    }
}
