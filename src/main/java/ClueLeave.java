import java.util.Arrays;

/** Clues that have days off: who is left as the culprit is told by the clues that are at work alone. */
public final class ClueLeave {
    public static final int NONE = -1000000, BAD = -1000001, STATE = -1000002, FULL = -1000003;

    private static final int FOUND = -1000010;
    private static final int NULL = 1, PLACE = 2, KIND = 3, SIZE = 4, STORE = 5;
    private static final int FAULTY = -1000100;

    private static final int LAST_DAY = 999;
    private static final int DAYS_AT_ONCE = 24;
    private static final int FARTHEST = 99;
    private static final int ROTA_DAYS = 14;
    private static final int WHEN_DAYS = 60;
    private static final int TOLD_DAYS = 16;
    private static final int DRAWN_DAYS = 60;
    private static final int LAST_SEED = 999999;
    private static final int AS_IT_IS = 64;

    private static final int MOST_SUSPECTS = 6;
    private static final int MOST_CLUES = 6;
    private static final int MOST_EVERY = 4;
    private static final int WEEK = 7;

    private static final int CLUE = 0, THREAD = 1, GLOVE = 2, VOICE = 3, STAIN = 4, ALIBI = 5;
    /** By KIND: which KINDS (bits) one of it is. */
    private static final int[] IS_ALSO = {0b1, 0b11, 0b111, 0b1011, 0b10001, 0b110001};

    private final Rows rows = new Rows();
    private final Tape tape = new Tape();
    private final Acts acts = new Acts();
    private final RotaSearch search = new RotaSearch();
    private final Asks asks = new Asks();
    private final City city = new City();
    /** What a text tells before it is known to be sound, or the city as it might be. */
    private final City draft = new City();
    private final City[] images = {new City(), new City()};
    private int finding;

    public ClueLeave() {
    }

    // ---- rows

    public int row(int row, int lane, int n) {
        if (!rows.isRow(row) || !isWithin(lane, Rows.BYTES, Rows.INTS) || n > Rows.MOST_ITEMS) {
            return BAD;
        }
        if (n < 0) {
            return found(SIZE);
        }
        rows.make(row, lane, n);
        return sound(n);
    }

    public int set(int row, int i, int v) {
        if (!rows.isRow(row)) {
            return BAD;
        }
        if (rows.isMissing(row)) {
            return found(NULL);
        }
        if (!rows.hasPlaces(row, i, 1)) {
            return found(PLACE);
        }
        return sound(rows.put(row, i, v));
    }

    public int copy(int a, int i, int b, int j, int n) {
        if (!rows.isRow(a) || !rows.isRow(b)) {
            return BAD;
        }
        if (rows.isMissing(a) || rows.isMissing(b)) {
            return found(NULL);
        }
        if (rows.laneOf(a) != rows.laneOf(b)) {
            return found(STORE);
        }
        if (!rows.hasPlaces(a, i, n) || !rows.hasPlaces(b, j, n)) {
            return found(PLACE);
        }
        rows.move(a, i, b, j, n);
        return sound(n);
    }

    public int drop(int row) {
        if (!rows.isRow(row)) {
            return BAD;
        }
        if (rows.isMissing(row)) {
            return found(NULL);
        }
        return sound(rows.takeAway(row));
    }

    // ---- cities, acts

    public int feed(int letter) {
        if (!isWithin(letter, 0, 255)) {
            return BAD;
        }
        if (tape.isFull()) {
            return FULL;
        }
        return tape.add(letter);
    }

    public int city() {
        int place = tape.readInto(draft);
        if (place != Tape.NO_FAULT) {
            return FAULTY - place;
        }
        city.become(draft);
        acts.forgetAll();
        return city.clues;
    }

    public int fault() {
        return tape.latestFault();
    }

    public int days(int n) {
        if (!city.stands()) {
            return STATE;
        }
        if (!isWithin(n, 1, DAYS_AT_ONCE)) {
            return BAD;
        }
        if (city.day + n > LAST_DAY) {
            return FULL;
        }
        for (int i = 0; i < n; i++) {
            acts.keep(Acts.DAY, 0, 0);
        }
        city.day += n;
        return city.leftOn(city.day);
    }

    public int bribe(int clue, int on) {
        if (!city.has(clue) || !isWithin(on, 0, 1)) {
            return BAD;
        }
        if (city.isBribed(clue) == (on == 1)) {
            return STATE;
        }
        acts.keep(Acts.BRIBE, clue, city.bribed);
        city.bribed ^= 1 << clue;
        return city.bribed;
    }

    public int learn(int clue, int tells) {
        if (!city.has(clue) || !isWithin(tells, 1, city.everyone())) {
            return BAD;
        }
        int told = city.tells[clue];
        acts.keep(Acts.LESSON, clue, told);
        city.tells[clue] = tells;
        return told;
    }

    public int shift(int clue, int v) {
        if (!city.has(clue) || !isWithin(v, 0, city.every[clue] - 1)) {
            return BAD;
        }
        int was = city.off[clue];
        acts.keep(Acts.SHIFT, clue, was);
        city.off[clue] = v;
        return was;
    }

    public int undo() {
        if (acts.kept() == 0) {
            return STATE;
        }
        acts.takeBack(city);
        return acts.kept();
    }

    public int clue(int clue, int what) {
        if (!city.has(clue)) {
            return BAD;
        }
        switch (what) {
            case 0: return city.tells[clue];
            case 1: return city.every[clue];
            case 2: return city.off[clue];
            case 3: return city.isBribed(clue) ? 1 : 0;
            case 4: return city.worksOn(clue, city.day) ? 1 : 0;
            case 5: return city.leftByOne(clue);
            default: return BAD;
        }
    }

    // ---- foretold

    public int ahead(int d, int what) {
        if (!city.stands()) {
            return STATE;
        }
        if (!isWithin(d, 0, FARTHEST) || !isWithin(what, 0, 2)) {
            return BAD;
        }
        int day = city.day + d;
        if (what == 0) {
            return city.leftOn(day);
        }
        return what == 1 ? city.workersOn(day) : onlyOne(city.leftOn(day));
    }

    public int first(int mean) {
        if (!city.stands()) {
            return STATE;
        }
        if (!isWithin(mean, 0, 1)) {
            return BAD;
        }
        int howMany = mean == 1 ? 0 : 1;
        for (int d = 0; d <= FARTHEST; d++) {
            if (Integer.bitCount(city.leftOn(city.day + d)) == howMany) {
                return d;
            }
        }
        return NONE;
    }

    public int rota(int n, int k) {
        if (!city.stands()) {
            return STATE;
        }
        if (!isWithin(n, 1, ROTA_DAYS) || !isWithin(k, -1, MOST_CLUES - 1)) {
            return BAD;
        }
        if (k >= city.clues) {
            return NONE;
        }
        draft.become(city);
        search.run(draft, n);
        return k < 0 ? search.mostSure() : search.bestOff(k);
    }

    public int when(int suspect, int n) {
        if (!isWithin(suspect, 0, city.suspects - 1) || !isWithin(n, 1, WHEN_DAYS)) {
            return BAD;
        }
        int best = NONE;
        int most = 1;
        for (int d = 0; d < n; d++) {
            int left = city.leftOn(city.day + d);
            if (isIn(left, suspect) && Integer.bitCount(left) > most) {
                most = Integer.bitCount(left);
                best = d;
            }
        }
        return best;
    }

    public int enough(int d, int what) {
        if (!city.stands()) {
            return STATE;
        }
        if (!isWithin(d, 0, FARTHEST) || !isWithin(what, 0, 1)) {
            return BAD;
        }
        int workers = city.workersOn(city.day + d);
        return tellSet(city.fewestThatLeave(workers, city.leftBy(workers)), what);
    }

    public int clash(int d, int what) {
        if (!city.stands()) {
            return STATE;
        }
        if (!isWithin(d, 0, FARTHEST) || !isWithin(what, 0, 1)) {
            return BAD;
        }
        return tellSet(city.fewestThatLeave(city.workersOn(city.day + d), 0), what);
    }

    public int bribes(int row, int i, int n) {
        if (!city.stands()) {
            return STATE;
        }
        if (!rows.isRow(row) || !isWithin(n, 1, TOLD_DAYS)) {
            return BAD;
        }
        if (rows.isMissing(row)) {
            return found(NULL);
        }
        if (!rows.hasPlaces(row, i, n)) {
            return found(PLACE);
        }
        int set = isAsTold(city, row, i, n) ? AS_IT_IS : 0;
        for (int c = 0; c < city.clues; c++) {
            draft.become(city);
            draft.bribed ^= 1 << c;
            if (isAsTold(draft, row, i, n)) {
                set |= 1 << c;
            }
        }
        return sound(set);
    }

    public int fits(int clue, int row, int i, int n, int what) {
        if (!city.has(clue) || !rows.isRow(row) || !isWithin(n, 1, TOLD_DAYS) || !isWithin(what, 0, 1)) {
            return BAD;
        }
        if (rows.isMissing(row)) {
            return found(NULL);
        }
        if (!rows.hasPlaces(row, i, n)) {
            return found(PLACE);
        }
        draft.become(city);
        int set = 0;
        int least = what == 0 ? THREAD : 0;
        int most = what == 0 ? ALIBI : city.every[clue] - 1;
        for (int v = least; v <= most; v++) {
            if (what == 0) {
                draft.kinds[clue] = v;
            } else {
                draft.off[clue] = v;
            }
            if (isAsTold(draft, row, i, n)) {
                set |= 1 << v;
            }
        }
        return sound(set);
    }

    public int strike(int d, int c, int what) {
        if (!city.stands()) {
            return STATE;
        }
        if (!isWithin(d, 0, FARTHEST) || !isWithin(c, 0, 10) || !isWithin(what, 0, 1)) {
            return BAD;
        }
        int workers = city.workersOn(city.day + d);
        int above = city.tenthsSure(workers, c);
        int below = power(10, Integer.bitCount(workers));
        int shared = Math.max(1, greatestDivisor(above, below));
        return (what == 0 ? above : below) / shared;
    }

    public int drawn(int n, int seed, int what) {
        if (!city.stands()) {
            return STATE;
        }
        if (!isWithin(n, 0, DRAWN_DAYS) || !isWithin(seed, 1, LAST_SEED) || !isWithin(what, 0, 1)) {
            return BAD;
        }
        long x = seed;
        int times = 0;
        for (int d = 0; d < n; d++) {
            x = x * 16807 % 2147483647;
            int culprit = (int) (x % Math.max(1, city.suspects));
            int taken = onlyOne(city.leftOn(city.day + d));
            if (taken != NONE && (taken == culprit) == (what == 0)) {
                times++;
            }
        }
        return times;
    }

    public int image(int k) {
        if (!isWithin(k, 0, images.length - 1)) {
            return BAD;
        }
        if (!city.stands()) {
            return STATE;
        }
        images[k].become(city);
        return 1;
    }

    public int restore(int k) {
        if (!isWithin(k, 0, images.length - 1)) {
            return BAD;
        }
        if (!images[k].stands()) {
            return STATE;
        }
        city.become(images[k]);
        acts.forgetAll();
        return 1;
    }

    // ---- asked

    public int kind(int clue) {
        return city.has(clue) ? city.kinds[clue] : BAD;
    }

    public int as(int clue, int kind) {
        if (!city.has(clue) || !isWithin(kind, CLUE, ALIBI)) {
            return BAD;
        }
        if (!isIn(IS_ALSO[city.kinds[clue]], kind)) {
            return found(KIND);
        }
        return sound(clue);
    }

    public int ask(int clue, int what) {
        if (!city.has(clue) || !isWithin(what, Asks.SIZE, Asks.MARK)) {
            return BAD;
        }
        return asks.answer(city, clue, what);
    }

    public int trace(int i) {
        return asks.traceAt(i);
    }

    public int count(int what) {
        switch (what) {
            case 0: return rows.present();
            case 1: return city.clues;
            case 2: return city.suspects;
            case 3: return city.day;
            case 4: return city.sunday;
            case 5: return city.bribed;
            case 6: return acts.kept();
            case 7: return tape.size();
            default: return BAD;
        }
    }

    public int status() {
        return finding;
    }

    // ---- what several calls need

    private int found(int number) {
        finding = number;
        return FOUND - number;
    }

    private int sound(int answer) {
        finding = 0;
        return answer;
    }

    private boolean isAsTold(City one, int row, int i, int n) {
        for (int d = 0; d < n; d++) {
            if (one.leftOn(one.day + d) != rows.itemAt(row, i + d)) {
                return false;
            }
        }
        return true;
    }

    private static int tellSet(int set, int what) {
        if (set == NONE) {
            return NONE;
        }
        return what == 0 ? Integer.bitCount(set) : set;
    }

    private static boolean isWithin(int n, int least, int most) {
        return n >= least && n <= most;
    }

    private static boolean isIn(int set, int one) {
        return (set >> one & 1) == 1;
    }

    private static int onlyOne(int set) {
        return Integer.bitCount(set) == 1 ? Integer.numberOfTrailingZeros(set) : NONE;
    }

    private static int power(int base, int times) {
        int product = 1;
        for (int i = 0; i < times; i++) {
            product *= base;
        }
        return product;
    }

    private static int greatestDivisor(int a, int b) {
        int larger = a;
        int smaller = b;
        // Euclid's steps over ints are fewer than 50; the bound only shows that there is an end.
        for (int step = 0; step < 100 && smaller != 0; step++) {
            int rest = larger % smaller;
            larger = smaller;
            smaller = rest;
        }
        return larger;
    }

    /** ROWS: all places are made at once, so that no call makes any. */
    private static final class Rows {
        static final int BYTES = 0, SHORTS = 1, INTS = 2;
        static final int MOST_ITEMS = 40;
        private static final int MOST_ROWS = 8;
        private static final int MISSING = -1;

        private final int[] lanes = new int[MOST_ROWS];
        private final int[] sizes = new int[MOST_ROWS];
        private final int[][] items = new int[MOST_ROWS][MOST_ITEMS];

        Rows() {
            Arrays.fill(lanes, MISSING);
        }

        boolean isRow(int r) {
            return r >= 0 && r < MOST_ROWS;
        }

        boolean isMissing(int r) {
            return lanes[r] == MISSING;
        }

        int laneOf(int r) {
            return lanes[r];
        }

        boolean hasPlaces(int r, int i, int n) {
            // i + n might wrap around; with n not below 0 the difference can't.
            return i >= 0 && n >= 0 && i <= sizes[r] - n;
        }

        void make(int r, int lane, int n) {
            lanes[r] = lane;
            sizes[r] = n;
            Arrays.fill(items[r], 0);
        }

        int put(int r, int i, int v) {
            items[r][i] = lowestBits(lanes[r], v);
            return items[r][i];
        }

        int itemAt(int r, int i) {
            return items[r][i];
        }

        void move(int a, int i, int b, int j, int n) {
            System.arraycopy(items[a], i, items[b], j, n);
        }

        int takeAway(int r) {
            lanes[r] = MISSING;
            return sizes[r];
        }

        int present() {
            int n = 0;
            for (int r = 0; r < MOST_ROWS; r++) {
                if (!isMissing(r)) {
                    n++;
                }
            }
            return n;
        }

        private static int lowestBits(int lane, int v) {
            switch (lane) {
                case BYTES: return (byte) v;
                case SHORTS: return (short) v;
                default: return v;
            }
        }
    }

    /** THE TAPE, and how a CITY is read from it. */
    private static final class Tape {
        static final int NO_FAULT = -1;
        private static final int ROOM = 100;
        private static final int WRONG_TOKEN = 1, WRONG_NUMBER = 2, NO_ROOM = 3;
        private static final int LONGEST_NUMBER = 2;
        private static final int NO_NUMBER = -1;

        private final int[] bytes = new int[ROOM];
        private int size;
        private int at;
        private int faultPlace = NO_FAULT;
        private int fault;

        boolean isFull() {
            return size >= ROOM;
        }

        int size() {
            return size;
        }

        int latestFault() {
            return fault;
        }

        int add(int letter) {
            bytes[size] = letter;
            size++;
            return size;
        }

        /** The place of the fault; what was read is in the draft, if there is none. */
        int readInto(City draft) {
            at = 0;
            faultPlace = NO_FAULT;
            draft.clear();
            if (readLaw(draft)) {
                readClues(draft);
            }
            size = 0;
            return faultPlace;
        }

        private boolean readLaw(City draft) {
            if (!take('c')) {
                return false;
            }
            draft.suspects = takeNumber(2, MOST_SUSPECTS);
            if (draft.suspects == NO_NUMBER || !take(',')) {
                return false;
            }
            draft.sunday = takeNumber(0, WEEK - 1);
            return draft.sunday != NO_NUMBER && take(';');
        }

        private void readClues(City draft) {
            // One round more than there is room for: the clue too many is a fault.
            for (int c = 0; c <= MOST_CLUES && at < size; c++) {
                if (!readClue(draft)) {
                    return;
                }
            }
        }

        private boolean readClue(City draft) {
            int kind = kindBy(bytes[at]);
            if (kind == CLUE) {
                return blame(WRONG_TOKEN);
            }
            if (draft.clues >= MOST_CLUES) {
                return blame(NO_ROOM);
            }
            at++;
            int tells = takeNumber(1, draft.everyone());
            if (tells == NO_NUMBER || !take(',')) {
                return false;
            }
            int every = takeNumber(2, MOST_EVERY);
            if (every == NO_NUMBER || !take(',')) {
                return false;
            }
            int off = takeNumber(0, every - 1);
            if (off == NO_NUMBER || !take(';')) {
                return false;
            }
            draft.add(kind, tells, every, off);
            return true;
        }

        private static int kindBy(int letter) {
            switch (letter) {
                case 't': return THREAD;
                case 'g': return GLOVE;
                case 'v': return VOICE;
                case 's': return STAIN;
                case 'a': return ALIBI;
                default: return CLUE;
            }
        }

        private boolean take(int sign) {
            if (at >= size || bytes[at] != sign) {
                return blame(WRONG_TOKEN);
            }
            at++;
            return true;
        }

        private int takeNumber(int least, int most) {
            int end = at;
            int number = 0;
            for (; end < size && isWithin(bytes[end], '0', '9'); end++) {
                number = number * 10 + bytes[end] - '0';
            }
            // Of a long run the number may have wrapped around, but then the run is no token at all.
            if (end == at || end - at > LONGEST_NUMBER) {
                blame(WRONG_TOKEN);
                return NO_NUMBER;
            }
            if (!isWithin(number, least, most)) {
                blame(WRONG_NUMBER);
                return NO_NUMBER;
            }
            at = end;
            return number;
        }

        private boolean blame(int number) {
            fault = number;
            faultPlace = at;
            return false;
        }
    }

    /** A CITY on its DAY; one without SUSPECTS is none. */
    private static final class City {
        int suspects;
        int sunday;
        int day;
        int clues;
        int bribed;
        final int[] kinds = new int[MOST_CLUES];
        final int[] tells = new int[MOST_CLUES];
        final int[] every = new int[MOST_CLUES];
        final int[] off = new int[MOST_CLUES];

        boolean stands() {
            return suspects > 0;
        }

        boolean has(int clue) {
            return clue >= 0 && clue < clues;
        }

        void clear() {
            suspects = 0;
            sunday = 0;
            day = 0;
            clues = 0;
            bribed = 0;
        }

        void add(int kind, int told, int round, int leave) {
            kinds[clues] = kind;
            tells[clues] = told;
            every[clues] = round;
            off[clues] = leave;
            clues++;
        }

        void become(City other) {
            suspects = other.suspects;
            sunday = other.sunday;
            day = other.day;
            clues = other.clues;
            bribed = other.bribed;
            System.arraycopy(other.kinds, 0, kinds, 0, MOST_CLUES);
            System.arraycopy(other.tells, 0, tells, 0, MOST_CLUES);
            System.arraycopy(other.every, 0, every, 0, MOST_CLUES);
            System.arraycopy(other.off, 0, off, 0, MOST_CLUES);
        }

        int everyone() {
            return (1 << suspects) - 1;
        }

        boolean isBribed(int clue) {
            return isIn(bribed, clue);
        }

        boolean worksOn(int clue, int someDay) {
            if (kinds[clue] == ALIBI) {
                return true;
            }
            if (kinds[clue] == GLOVE && someDay % WEEK == sunday) {
                return false;
            }
            return every[clue] <= 0 || someDay % every[clue] != off[clue];
        }

        int workersOn(int someDay) {
            int set = 0;
            for (int c = 0; c < clues; c++) {
                if (worksOn(c, someDay)) {
                    set |= 1 << c;
                }
            }
            return set;
        }

        int leftByOne(int clue) {
            boolean bought = isBribed(clue);
            int others = everyone() & ~tells[clue];
            switch (kinds[clue]) {
                case VOICE: return bought ? others : tells[clue];
                case STAIN:
                case ALIBI: return bought ? everyone() : others;
                default: return bought ? everyone() : tells[clue];
            }
        }

        int leftBy(int workers) {
            int left = everyone();
            for (int c = 0; c < clues; c++) {
                if (isIn(workers, c)) {
                    left &= leftByOne(c);
                }
            }
            return left;
        }

        int leftOn(int someDay) {
            return leftBy(workersOn(someDay));
        }

        /** Going up, the first set of so many clues is the least one. */
        int fewestThatLeave(int workers, int left) {
            int best = NONE;
            for (int set = 0; set <= workers; set++) {
                boolean isFewer = best == NONE || Integer.bitCount(set) < Integer.bitCount(best);
                if ((set & ~workers) == 0 && isFewer && leftBy(set) == left) {
                    best = set;
                }
            }
            return best;
        }

        /** How likely one alone is left if each worker stays away by c of 10: so many of 10 to the workers' number. */
        int tenthsSure(int workers, int c) {
            int sum = 0;
            for (int set = 0; set <= workers; set++) {
                if ((set & ~workers) == 0 && onlyOne(leftBy(set)) != NONE) {
                    int stay = Integer.bitCount(set);
                    sum += power(10 - c, stay) * power(c, Integer.bitCount(workers) - stay);
                }
            }
            return sum;
        }
    }

    /** The latest ACTS, in a ring: what is needed to undo each. */
    private static final class Acts {
        static final int DAY = 0, BRIBE = 1, LESSON = 2, SHIFT = 3;
        private static final int ROOM = 24;

        private final int[] sorts = new int[ROOM];
        private final int[] clues = new int[ROOM];
        private final int[] before = new int[ROOM];
        private int next;
        private int kept;

        int kept() {
            return kept;
        }

        void forgetAll() {
            kept = 0;
        }

        void keep(int sort, int clue, int was) {
            sorts[next] = sort;
            clues[next] = clue;
            before[next] = was;
            next = (next + 1) % ROOM;
            kept = Math.min(kept + 1, ROOM);
        }

        void takeBack(City city) {
            next = (next + ROOM - 1) % ROOM;
            kept--;
            switch (sorts[next]) {
                case BRIBE:
                    city.bribed = before[next];
                    break;
                case LESSON:
                    city.tells[clues[next]] = before[next];
                    break;
                case SHIFT:
                    city.off[clues[next]] = before[next];
                    break;
                default:
                    city.day--;
            }
        }
    }

    /** ROTA: all OFFs are tried, the last clue's first, so that the first of the best comes first. */
    private static final class RotaSearch {
        private static final int MOST_ROTAS = 4096;

        /** By clue and OFF, and by suspect: the days (bits) on which the clue does not rule the suspect out. */
        private final int[][] spares = new int[MOST_CLUES * MOST_EVERY][MOST_SUSPECTS];
        /** By clue and suspect: the days on which the suspect is left by the clues ahead of this one. */
        private final int[][] left = new int[MOST_CLUES + 1][MOST_SUSPECTS];
        private final int[] best = new int[MOST_CLUES];
        private int most;

        int mostSure() {
            return most;
        }

        int bestOff(int clue) {
            return best[clue];
        }

        /** The OFFs of the city that is lent become others. */
        void run(City trial, int n) {
            fillSpares(trial, n);
            Arrays.fill(trial.off, 0);
            Arrays.fill(left[0], (1 << n) - 1);
            most = -1;
            int changed = 0;
            for (int round = 0; round < MOST_ROTAS && changed >= 0; round++) {
                narrow(trial, changed);
                int sure = sureDays(trial);
                if (sure > most) {
                    most = sure;
                    System.arraycopy(trial.off, 0, best, 0, MOST_CLUES);
                }
                changed = turn(trial);
            }
        }

        private void fillSpares(City trial, int n) {
            for (int c = 0; c < trial.clues; c++) {
                for (int v = 0; v < trial.every[c]; v++) {
                    trial.off[c] = v;
                    int away = daysOff(trial, c, n);
                    int all = (1 << n) - 1;
                    for (int s = 0; s < trial.suspects; s++) {
                        spares[c * MOST_EVERY + v][s] = isIn(trial.leftByOne(c), s) ? all : away;
                    }
                }
            }
        }

        private static int daysOff(City trial, int clue, int n) {
            int away = 0;
            for (int d = 0; d < n; d++) {
                if (!trial.worksOn(clue, trial.day + d)) {
                    away |= 1 << d;
                }
            }
            return away;
        }

        private void narrow(City trial, int from) {
            for (int c = from; c < trial.clues; c++) {
                int[] spared = spares[c * MOST_EVERY + trial.off[c]];
                for (int s = 0; s < trial.suspects; s++) {
                    left[c + 1][s] = left[c][s] & spared[s];
                }
            }
        }

        private int sureDays(City trial) {
            int once = 0;
            int more = 0;
            for (int s = 0; s < trial.suspects; s++) {
                int days = left[trial.clues][s];
                more |= once & days;
                once |= days;
            }
            return Integer.bitCount(once & ~more);
        }

        /** To the next rota: the clue from which on it is another, or -1 behind the last. */
        private static int turn(City trial) {
            for (int c = trial.clues - 1; c >= 0; c--) {
                trial.off[c]++;
                if (trial.off[c] < trial.every[c]) {
                    return c;
                }
                trial.off[c] = 0;
            }
            return -1;
        }
    }

    /** ASKS, and THE TRACE that their BODIES leave. */
    private static final class Asks {
        static final int SIZE = 0, MARK = 1;
        private static final int ROOM = 16;
        /** The BODIES call no more than five deep; the limit only shows that there is an end. */
        private static final int DEEPEST = 10;
        /** By KIND: the BODY that begins, the nearest wider KIND's where none is told. */
        private static final int[] SIZES = {10, 11, 12, 11, 13, 14};
        private static final int[] MARKS = {20, 21, 24, 22, 23, 23};

        private final int[] trace = new int[ROOM];
        private int traced;

        int traceAt(int i) {
            return i >= 0 && i < traced ? trace[i] : NONE;
        }

        int answer(City city, int clue, int what) {
            traced = 0;
            return begin(city, clue, what, 0);
        }

        private int begin(City city, int clue, int what, int depth) {
            int kind = city.kinds[clue];
            return give(city, clue, what == SIZE ? SIZES[kind] : MARKS[kind], depth);
        }

        private int give(City city, int clue, int body, int depth) {
            if (depth > DEEPEST) {
                return 0;
            }
            leave(body);
            int deeper = depth + 1;
            switch (body) {
                case 10: return city.tells[clue];
                case 11: return give(city, clue, 10, deeper) + begin(city, clue, MARK, deeper);
                case 12: return -give(city, clue, 11, deeper);
                case 13: return give(city, clue, 10, deeper) - 100;
                case 14: return 2 * give(city, clue, 13, deeper);
                case 20: return clue;
                case 21: return give(city, clue, 20, deeper) + city.off[clue];
                case 22: return give(city, clue, 21, deeper) - 1000;
                case 23: return give(city, clue, 20, deeper) - begin(city, clue, SIZE, deeper);
                case 24: return 2 * give(city, clue, 21, deeper);
                default: return 0;
            }
        }

        private void leave(int body) {
            if (traced < ROOM) {
                trace[traced] = body;
                traced++;
            }
        }
    }
}
