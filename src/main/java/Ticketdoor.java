import java.util.Arrays;
import java.util.NoSuchElementException;

/** Little programs of a few hands on shared words, with all orders of their moves looked at. */
public final class Ticketdoor {
    private static final int MOST_WORDS = 6;
    private static final int MOST_HANDS = 3;
    private static final int MOST_STEPS = 16;
    private static final int MOST_STATES = 1000;
    private static final int MOST_CALLS = 6;
    private static final int MOST_ALONE = 200;
    private static final int REGISTERS = 3;
    private static final int DIGITS = 10;
    private static final int TIMES = 1000;
    private static final int ROOM = 2;

    /** A state is one long for each hand, and behind them one for all words. */
    private static final int WORDS_AT = MOST_HANDS;
    private static final int STATE_SIZE = MOST_HANDS + 1;

    private final Shelf shelf;
    private final Search search;
    private final Circles circles;
    private final History history;
    private final long[] run;
    private final long[] alone;
    private int moves;

    public Ticketdoor() {
        shelf = new Shelf();
        search = new Search(shelf);
        circles = new Circles(search);
        history = new History();
        run = new long[STATE_SIZE];
        alone = new long[STATE_SIZE];
        moves = 0;
    }

    // ---- words, hands, steps

    public int addWord(int value, boolean isSafe, int most) throws IllegalArgumentException, IllegalStateException {
        if (!isDigit(value) || most < 1 || most >= DIGITS) {
            throw new IllegalArgumentException("a number is out of range");
        }
        if (shelf.words >= MOST_WORDS) {
            throw new IllegalStateException("there are 6 words");
        }
        int word = shelf.newWord(value, isSafe, most);
        beginAnew();
        return word;
    }

    public int addHand() throws IllegalStateException {
        if (shelf.hands >= MOST_HANDS) {
            throw new IllegalStateException("there are 3 hands");
        }
        int hand = shelf.newHand();
        beginAnew();
        return hand;
    }

    public int addStep(int hand, char kind, int a, int b, int c)
            throws IndexOutOfBoundsException, IllegalArgumentException, IllegalStateException {
        needHand(hand);
        if (!shelf.isStep(kind, a, b, c)) {
            throw new IllegalArgumentException("there is no such step");
        }
        if (shelf.counts[hand] >= MOST_STEPS) {
            throw new IllegalStateException("the hand has 16 steps");
        }
        int step = shelf.newStep(hand, kind, a, b, c);
        beginAnew();
        return step;
    }

    public int dropSteps(int hand) throws IndexOutOfBoundsException {
        needHand(hand);
        int had = shelf.counts[hand];
        shelf.counts[hand] = 0;
        beginAnew();
        return had;
    }

    public int countSteps(int hand) throws IndexOutOfBoundsException {
        needHand(hand);
        return shelf.counts[hand];
    }

    public boolean setBuffers(boolean areOn) {
        boolean were = shelf.hasBuffers;
        shelf.hasBuffers = areOn;
        beginAnew();
        return were;
    }

    public int setDeath(int hand, int step) throws IndexOutOfBoundsException, IllegalArgumentException {
        needHand(hand);
        if (step < -1 || step > MOST_STEPS) {
            throw new IllegalArgumentException("a number is out of range");
        }
        int before = shelf.deaths[hand];
        shelf.deaths[hand] = step;
        beginAnew();
        return before;
    }

    // ---- all orders

    public int countStates() throws ArithmeticException {
        needStates();
        return search.found;
    }

    public int countMoves() throws ArithmeticException {
        needStates();
        return search.edgeCount;
    }

    public int countEnds() throws ArithmeticException {
        needStates();
        int ends = 0;
        for (int state = 0; state < search.found; state++) {
            if (search.isEnd(state)) {
                ends++;
            }
        }
        return ends;
    }

    public int mostInside() throws ArithmeticException {
        needStates();
        int most = 0;
        for (int state = 0; state < search.found; state++) {
            most = Math.max(most, search.inside(state));
        }
        return most;
    }

    public int rowLength(int many) throws IllegalArgumentException, ArithmeticException, NoSuchElementException {
        needMany(many);
        needStates();
        return search.depths[needInside(many)];
    }

    public int rowAt(int many, int index)
            throws IllegalArgumentException, ArithmeticException, NoSuchElementException {
        needMany(many);
        needStates();
        int state = needInside(many);
        if (index < 0 || index >= search.depths[state]) {
            throw new NoSuchElementException("there is no such move");
        }
        return search.rowMover(state, index);
    }

    public boolean canStarve(int hand) throws IndexOutOfBoundsException, ArithmeticException {
        needHand(hand);
        needStates();
        return circles.canWait(hand);
    }

    public int overtakes(int hand, int other)
            throws IndexOutOfBoundsException, IllegalArgumentException, ArithmeticException {
        needHand(hand);
        needHand(other);
        if (hand == other) {
            throw new IllegalArgumentException("both are the same");
        }
        needStates();
        return circles.mostEntries(hand, other);
    }

    public boolean canEnd(int word, int value)
            throws IndexOutOfBoundsException, IllegalArgumentException, ArithmeticException {
        needWord(word);
        needDigit(value);
        needStates();
        for (int state = 0; state < search.found; state++) {
            if (search.isEnd(state) && search.word(state, word) == value) {
                return true;
            }
        }
        return false;
    }

    public boolean canKeep(int hand, int register, int value)
            throws IndexOutOfBoundsException, IllegalArgumentException, ArithmeticException {
        needHand(hand);
        needRegister(register);
        needDigit(value);
        needStates();
        for (int state = 0; state < search.found; state++) {
            if (search.isEnd(state) && Hand.register(search.hand(state, hand), register) == value) {
                return true;
            }
        }
        return false;
    }

    public int countOutcomes() throws ArithmeticException {
        needStates();
        return search.outcomes();
    }

    public int greatest(int word) throws IndexOutOfBoundsException, ArithmeticException {
        needWord(word);
        needStates();
        int most = 0;
        for (int state = 0; state < search.found; state++) {
            most = Math.max(most, search.word(state, word));
        }
        return most;
    }

    public boolean canDecide(int value) throws IllegalArgumentException, ArithmeticException {
        needDigit(value);
        needStates();
        for (int state = 0; state < search.found; state++) {
            if (search.isEnd(state) && ((search.decisions(state) >> value) & 1) != 0) {
                return true;
            }
        }
        return false;
    }

    public boolean canDisagree() throws ArithmeticException {
        needStates();
        for (int state = 0; state < search.found; state++) {
            if (search.isEnd(state) && Integer.bitCount(search.decisions(state)) > 1) {
                return true;
            }
        }
        return false;
    }

    public int countUndecided() throws ArithmeticException {
        needStates();
        return circles.undecided();
    }

    public int movesAlone(int hand) throws IndexOutOfBoundsException {
        needHand(hand);
        shelf.putFirst(alone);
        for (int made = 1; made <= MOST_ALONE; made++) {
            if (shelf.choices(alone, hand) > 0) {
                shelf.makeStep(alone, hand, 0);
            } else if (Hand.buffered(alone[hand]) > 0) {
                shelf.emptyOldest(alone, hand);
            } else {
                return -1;
            }
            if (Hand.has(alone[hand], Hand.INSIDE)) {
                return made;
            }
        }
        return -1;
    }

    // ---- runs

    public int start() {
        int had = moves;
        beginRun();
        return had;
    }

    public int act(int hand, int choice)
            throws IndexOutOfBoundsException, UnsupportedOperationException, NoSuchElementException {
        needHand(hand);
        int choices = shelf.choices(run, hand);
        if (choices == 0) {
            throw new UnsupportedOperationException("the step cannot be made");
        }
        if (choice < 0 || choice >= choices) {
            throw new NoSuchElementException("there is no such choice");
        }
        shelf.makeStep(run, hand, choice);
        moves++;
        return moves;
    }

    public int flush(int hand) throws IndexOutOfBoundsException, NoSuchElementException {
        needHand(hand);
        if (Hand.buffered(run[hand]) == 0) {
            throw new NoSuchElementException("the buffer is empty");
        }
        shelf.emptyOldest(run, hand);
        moves++;
        return Hand.buffered(run[hand]);
    }

    public int die(int hand) throws IndexOutOfBoundsException, UnsupportedOperationException {
        needHand(hand);
        if (!shelf.isMortal(run, hand)) {
            throw new UnsupportedOperationException("the hand cannot die");
        }
        shelf.makeDeath(run, hand);
        moves++;
        return Hand.next(run[hand]);
    }

    public int getNext(int hand) throws IndexOutOfBoundsException {
        needHand(hand);
        return Hand.next(run[hand]);
    }

    public int getRegister(int hand, int register) throws IndexOutOfBoundsException, IllegalArgumentException {
        needHand(hand);
        needRegister(register);
        return Hand.register(run[hand], register);
    }

    public int getWord(int word) throws IndexOutOfBoundsException {
        needWord(word);
        return Shelf.word(run[WORDS_AT], word);
    }

    public boolean isInside(int hand) throws IndexOutOfBoundsException {
        needHand(hand);
        return Hand.has(run[hand], Hand.INSIDE);
    }

    public boolean isTrying(int hand) throws IndexOutOfBoundsException {
        needHand(hand);
        return Hand.has(run[hand], Hand.TRYING);
    }

    public int getDecided(int hand) throws IndexOutOfBoundsException, NoSuchElementException {
        needHand(hand);
        int decided = Hand.decided(run[hand]);
        if (decided < 0) {
            throw new NoSuchElementException("the hand decided nothing");
        }
        return decided;
    }

    public int countBuffered(int hand) throws IndexOutOfBoundsException {
        needHand(hand);
        return Hand.buffered(run[hand]);
    }

    public int getState() throws ArithmeticException {
        needStates();
        return search.numberOf(run);
    }

    // ---- histories

    public int addCall(char kind, int value, int begin, int end)
            throws IllegalArgumentException, IllegalStateException {
        if (!History.isKind(kind) || !isDigit(value) || begin < 0 || end >= TIMES || end <= begin) {
            throw new IllegalArgumentException("there is no such kind, or a number is out of range");
        }
        if (history.size >= MOST_CALLS) {
            throw new IllegalStateException("there are 6 calls");
        }
        return history.newCall(kind, value, begin, end);
    }

    public int dropCalls() {
        int had = history.size;
        history.clear();
        return had;
    }

    public int countOrders() {
        return history.fitting();
    }

    public int orderAt(int index) throws NoSuchElementException {
        if (history.fitting() == 0 || index < 0 || index >= history.size) {
            throw new NoSuchElementException("there is no order, or no such place");
        }
        return history.first[index];
    }

    // ---- figures

    public float insideShare() throws ArithmeticException {
        needStates();
        int some = 0;
        for (int state = 0; state < search.found; state++) {
            if (search.inside(state) > 0) {
                some++;
            }
        }
        return (float) some / (float) search.found;
    }

    public double meanMoves() throws ArithmeticException {
        needStates();
        return (double) search.edgeCount / (double) search.found;
    }

    public long checksum() {
        long sum = 7;
        for (int word = 0; word < shelf.words; word++) {
            sum = 31 * sum + Shelf.word(run[WORDS_AT], word);
        }
        for (int hand = 0; hand < shelf.hands; hand++) {
            sum = 31 * sum + Hand.next(run[hand]);
            for (int register = 0; register < REGISTERS; register++) {
                sum = 31 * sum + Hand.register(run[hand], register);
            }
        }
        return 31 * sum + moves;
    }

    public boolean isSound() {
        if (search.explore() && (search.numberOf(run) < 0 || !search.hasShortRows() || !search.hasQuietEnds())) {
            return false;
        }
        return history.fitting() == 0 || history.firstFits();
    }

    private static boolean isDigit(int value) {
        return value >= 0 && value < DIGITS;
    }

    private static boolean isRegister(int register) {
        return register >= 0 && register < REGISTERS;
    }

    private void needHand(int hand) {
        if (hand < 0 || hand >= shelf.hands) {
            throw new IndexOutOfBoundsException("there is no such hand");
        }
    }

    private void needWord(int word) {
        if (!shelf.isWord(word)) {
            throw new IndexOutOfBoundsException("there is no such word");
        }
    }

    private static void needDigit(int value) {
        if (!isDigit(value)) {
            throw new IllegalArgumentException("a number is out of range");
        }
    }

    private static void needRegister(int register) {
        if (!isRegister(register)) {
            throw new IllegalArgumentException("a number is out of range");
        }
    }

    private void needStates() {
        if (!search.explore()) {
            throw new ArithmeticException("there are more than 1000 states");
        }
    }

    private static void needMany(int many) {
        if (many < 1 || many > MOST_HANDS) {
            throw new IllegalArgumentException("a number is out of range");
        }
    }

    /** States are found by rising lengths of their rows, so the lowest one that fits has a shortest row. */
    private int needInside(int many) {
        for (int state = 0; state < search.found; state++) {
            if (search.inside(state) == many) {
                return state;
            }
        }
        throw new NoSuchElementException("there is no such state");
    }

    private void beginAnew() {
        search.forget();
        circles.forget();
        beginRun();
    }

    private void beginRun() {
        shelf.putFirst(run);
        moves = 0;
    }

    /**
     * What a hand has, packed into one long, so that a state is compared and copied without making an object:
     * from the lowest bit on its next step (5 bits), three registers (4 each), four marks (1 each), what was
     * decided and one more (4), how many things its buffer has (2), and those, the oldest one first (7 each).
     */
    private static final class Hand {
        static final long WRITING = 1L << 17;
        static final long INSIDE = 1L << 18;
        static final long TRYING = 1L << 19;
        static final long DIED = 1L << 20;
        static final long DECIDED = 15L << 21;
        private static final long STEP = 31L;
        private static final int REGISTERS_AT = 5;
        private static final int DECIDED_AT = 21;
        private static final int COUNT_AT = 25;
        private static final int THINGS_AT = 27;
        private static final int THING_SIZE = 7;

        static int next(long hand) {
            return (int) (hand & STEP);
        }

        static long withNext(long hand, int step) {
            return (hand & ~STEP) | step;
        }

        static int register(long hand, int register) {
            return (int) ((hand >>> (REGISTERS_AT + 4 * register)) & 15);
        }

        static long withRegister(long hand, int register, int value) {
            int at = REGISTERS_AT + 4 * register;
            return (hand & ~(15L << at)) | ((long) value << at);
        }

        static long registers(long hand) {
            return (hand >>> REGISTERS_AT) & ((1L << (4 * REGISTERS)) - 1);
        }

        static boolean has(long hand, long mark) {
            return (hand & mark) != 0;
        }

        static int decided(long hand) {
            return (int) ((hand & DECIDED) >>> DECIDED_AT) - 1;
        }

        static long withDecided(long hand, int value) {
            return (hand & ~DECIDED) | ((long) (value + 1) << DECIDED_AT);
        }

        static int buffered(long hand) {
            return (int) ((hand >>> COUNT_AT) & 3);
        }

        static int bufferedWord(long hand, int index) {
            return (int) ((hand >>> (THINGS_AT + THING_SIZE * index + 4)) & 7);
        }

        static int bufferedValue(long hand, int index) {
            return (int) ((hand >>> (THINGS_AT + THING_SIZE * index)) & 15);
        }

        /** Needs a buffer with room. */
        static long withThing(long hand, int word, int value) {
            int count = (int) ((hand >>> COUNT_AT) & 3);
            long thing = 16 * word + value;
            return (hand + (1L << COUNT_AT)) | (thing << (THINGS_AT + THING_SIZE * count));
        }

        /** Needs a buffer that is not empty. */
        static long withoutOldest(long hand) {
            long younger = (hand >>> (THINGS_AT + THING_SIZE)) << THINGS_AT;
            return ((hand & ((1L << THINGS_AT) - 1)) - (1L << COUNT_AT)) | younger;
        }
    }

    /** All that was told of words, hands, steps, buffers and deaths, and the moves that it allows. */
    private static final class Shelf {
        int words;
        int hands;
        boolean hasBuffers;
        final int[] counts = new int[MOST_HANDS];
        final int[] deaths = new int[MOST_HANDS];
        private final int[] mosts = new int[MOST_WORDS];
        private final boolean[] safes = new boolean[MOST_WORDS];
        private final char[] kinds = new char[MOST_HANDS * MOST_STEPS];
        private final int[] as = new int[MOST_HANDS * MOST_STEPS];
        private final int[] bs = new int[MOST_HANDS * MOST_STEPS];
        private final int[] cs = new int[MOST_HANDS * MOST_STEPS];
        private long firstWords;

        static int word(long words, int word) {
            return (int) ((words >>> (4 * word)) & 15);
        }

        private static long withWord(long words, int word, int value) {
            int at = 4 * word;
            return (words & ~(15L << at)) | ((long) value << at);
        }

        boolean isWord(int word) {
            return word >= 0 && word < words;
        }

        int newWord(int value, boolean isSafe, int most) {
            int word = words;
            firstWords = withWord(firstWords, word, value);
            safes[word] = isSafe;
            mosts[word] = most;
            words++;
            return word;
        }

        int newHand() {
            int hand = hands;
            deaths[hand] = -1;
            hands++;
            return hand;
        }

        int newStep(int hand, char kind, int a, int b, int c) {
            int step = counts[hand];
            int at = hand * MOST_STEPS + step;
            kinds[at] = kind;
            as[at] = a;
            bs[at] = b;
            cs[at] = c;
            counts[hand]++;
            return step;
        }

        boolean isStep(char kind, int a, int b, int c) {
            switch (kind) {
                case 'r': case 'w': case 's': case 'f':
                    return isRegister(a) && isWord(b) && c == 0;
                case 'n':
                    return isRegister(a) && isWord(b) && isRegister(c);
                case 'k':
                    return isRegister(a) && isDigit(b) && c == 0;
                case '+': case 'm':
                    return isRegister(a) && isRegister(b) && c == 0;
                case '=': case '<':
                    return isRegister(a) && isRegister(b) && c >= 0 && c <= MOST_STEPS;
                case 'j':
                    return a == 0 && b == 0 && c >= 0 && c <= MOST_STEPS;
                case 'd': case 'z':
                    return isRegister(a) && b == 0 && c == 0;
                case 'y': case 't': case 'i': case 'o': case 'h':
                    return a == 0 && b == 0 && c == 0;
                default:
                    return false;
            }
        }

        void putFirst(long[] at) {
            Arrays.fill(at, 0L);
            at[WORDS_AT] = firstWords;
        }

        boolean hasEnded(long mine, int hand) {
            return Hand.next(mine) >= counts[hand];
        }

        /** Tells by how many moves a hand's step can be made: none if the step waits or the hand has ended. */
        int choices(long[] at, int hand) {
            long mine = at[hand];
            if (hasEnded(mine, hand)) {
                return 0;
            }
            int step = hand * MOST_STEPS + Hand.next(mine);
            switch (kinds[step]) {
                case 'z':
                    return 2;
                case 'r':
                    return isWritten(at, hand, bs[step]) ? mosts[bs[step]] + 1 : 1;
                case 'w':
                    return Hand.buffered(mine) < ROOM ? 1 : 0;
                case 's': case 'n': case 'f': case 'y':
                    return Hand.buffered(mine) == 0 ? 1 : 0;
                default:
                    return 1;
            }
        }

        /** Needs no look at the buffers: with them on, no hand is ever marked as writing. */
        private boolean isWritten(long[] at, int reader, int word) {
            for (int hand = 0; hand < hands; hand++) {
                int next = Hand.next(at[hand]);
                boolean isWriting = next < counts[hand] && Hand.has(at[hand], Hand.WRITING);
                if (hand != reader && isWriting && bs[hand * MOST_STEPS + next] == word) {
                    return true;
                }
            }
            return false;
        }

        boolean goesInside(long mine, int hand) {
            return !hasEnded(mine, hand) && kinds[hand * MOST_STEPS + Hand.next(mine)] == 'i';
        }

        void makeStep(long[] at, int hand, int choice) {
            long mine = at[hand];
            if (hasEnded(mine, hand)) {
                return;
            }
            int step = hand * MOST_STEPS + Hand.next(mine);
            int a = as[step];
            int b = bs[step];
            int value = Hand.register(mine, a);
            int there = word(at[WORDS_AT], b);
            long after = Hand.withNext(mine, Hand.next(mine) + 1);
            switch (kinds[step]) {
                case 'r':
                    at[hand] = Hand.withRegister(after, a, isWritten(at, hand, b) ? choice : seen(mine, b, there));
                    break;
                case 'w':
                    write(at, hand, b, value);
                    break;
                case 's':
                    at[hand] = Hand.withRegister(after, a, there);
                    at[WORDS_AT] = withWord(at[WORDS_AT], b, value);
                    break;
                case 'n':
                    at[hand] = Hand.withRegister(after, a, there == value ? 1 : 0);
                    if (there == value) {
                        at[WORDS_AT] = withWord(at[WORDS_AT], b, Hand.register(mine, cs[step]));
                    }
                    break;
                case 'f':
                    at[hand] = Hand.withRegister(after, a, there);
                    at[WORDS_AT] = withWord(at[WORDS_AT], b, (there + 1) % DIGITS);
                    break;
                default:
                    at[hand] = afterOwnStep(after, step, choice);
                    break;
            }
        }

        /** Answers the hand behind a step that looks at nothing but the hand itself. */
        private long afterOwnStep(long after, int step, int choice) {
            int a = as[step];
            int b = bs[step];
            int value = Hand.register(after, a);
            switch (kinds[step]) {
                case 'k':
                    return Hand.withRegister(after, a, b);
                case '+':
                    return Hand.withRegister(after, a, (value + Hand.register(after, b)) % DIGITS);
                case 'm':
                    return Hand.withRegister(after, a, Math.max(value, Hand.register(after, b)));
                case '=':
                    return value == Hand.register(after, b) ? Hand.withNext(after, cs[step]) : after;
                case '<':
                    return value < Hand.register(after, b) ? Hand.withNext(after, cs[step]) : after;
                case 'j':
                    return Hand.withNext(after, cs[step]);
                case 'h':
                    return Hand.withNext(after, MOST_STEPS);
                case 'z':
                    return Hand.withRegister(after, a, choice);
                case 'd':
                    return Hand.withDecided(after, value);
                case 't':
                    return after | Hand.TRYING;
                case 'i':
                    return (after | Hand.INSIDE) & ~Hand.TRYING;
                case 'o':
                    return after & ~Hand.INSIDE;
                default:
                    return after;
            }
        }

        private static int seen(long mine, int word, int there) {
            int value = there;
            for (int index = 0; index < ROOM && index < Hand.buffered(mine); index++) {
                if (Hand.bufferedWord(mine, index) == word) {
                    value = Hand.bufferedValue(mine, index);
                }
            }
            return value;
        }

        private void write(long[] at, int hand, int word, int value) {
            long mine = at[hand];
            long after = Hand.withNext(mine, Hand.next(mine) + 1);
            if (hasBuffers) {
                at[hand] = Hand.withThing(after, word, value);
            } else if (safes[word] && !Hand.has(mine, Hand.WRITING)) {
                at[hand] = mine | Hand.WRITING;
            } else {
                at[hand] = after & ~Hand.WRITING;
                at[WORDS_AT] = withWord(at[WORDS_AT], word, value);
            }
        }

        void emptyOldest(long[] at, int hand) {
            long mine = at[hand];
            if (Hand.buffered(mine) == 0) {
                return;
            }
            at[WORDS_AT] = withWord(at[WORDS_AT], Hand.bufferedWord(mine, 0), Hand.bufferedValue(mine, 0));
            at[hand] = Hand.withoutOldest(mine);
        }

        boolean isMortal(long[] at, int hand) {
            return deaths[hand] >= 0 && !hasEnded(at[hand], hand) && !Hand.has(at[hand], Hand.DIED);
        }

        /** A word that is being written keeps its value until the second move, so nothing is to be put back. */
        void makeDeath(long[] at, int hand) {
            at[hand] = Hand.withNext((at[hand] & Hand.DECIDED) | Hand.DIED, deaths[hand]);
        }
    }

    /** All states that can be come to, numbered as they are found, and all moves between them. */
    private static final class Search {
        private static final int SLOTS = 2048;
        private static final int SLOT_BITS = 11;
        /** An odd number with bits at all places, by which like states come to unlike slots. */
        private static final long SPREAD = 0x9E3779B97F4A7C15L;
        /** Of each hand ten values of a read, its buffer and its death. */
        private static final int MOST_EDGES = MOST_STATES * MOST_HANDS * (DIGITS + 2);
        private static final int STATE_BITS = 10;
        private static final int BY_STEP = 1 << 12;
        private static final int GOES_INSIDE = 1 << 13;

        final int[] depths = new int[MOST_STATES];
        /** Where the moves of each state begin among all, and, behind the last one, where they end. */
        final int[] firsts = new int[MOST_STATES + 1];
        int found;
        int edgeCount;
        private final Shelf shelf;
        private final long[] rows = new long[MOST_STATES * STATE_SIZE];
        private final int[] parents = new int[MOST_STATES];
        private final int[] movers = new int[MOST_STATES];
        private final int[] edges = new int[MOST_EDGES];
        private final int[] slots = new int[SLOTS];
        private final long[] outcomeSlots = new long[SLOTS];
        private final long[] from = new long[STATE_SIZE];
        private final long[] to = new long[STATE_SIZE];
        private boolean isExplored;
        private boolean isTooMuch;

        Search(Shelf shelf) {
            this.shelf = shelf;
        }

        void forget() {
            isExplored = false;
        }

        /** Answers whether the states are not too many. */
        boolean explore() {
            if (isExplored) {
                return !isTooMuch;
            }
            isExplored = true;
            isTooMuch = false;
            found = 0;
            edgeCount = 0;
            Arrays.fill(slots, 0);
            shelf.putFirst(to);
            addState(homeOf(to), 0, 0);
            for (int state = 0; state < MOST_STATES && state < found && !isTooMuch; state++) {
                System.arraycopy(rows, state * STATE_SIZE, from, 0, STATE_SIZE);
                firsts[state] = edgeCount;
                for (int hand = 0; hand < shelf.hands; hand++) {
                    makeMoves(state, hand);
                }
                firsts[state + 1] = edgeCount;
            }
            return !isTooMuch;
        }

        private void makeMoves(int state, int hand) {
            int choices = shelf.choices(from, hand);
            int marks = shelf.goesInside(from[hand], hand) ? BY_STEP | GOES_INSIDE : BY_STEP;
            for (int choice = 0; choice < choices; choice++) {
                System.arraycopy(from, 0, to, 0, STATE_SIZE);
                shelf.makeStep(to, hand, choice);
                addEdge(state, hand, marks);
            }
            if (Hand.buffered(from[hand]) > 0) {
                System.arraycopy(from, 0, to, 0, STATE_SIZE);
                shelf.emptyOldest(to, hand);
                addEdge(state, hand, 0);
            }
            if (shelf.isMortal(from, hand)) {
                System.arraycopy(from, 0, to, 0, STATE_SIZE);
                shelf.makeDeath(to, hand);
                addEdge(state, hand, 0);
            }
        }

        private void addEdge(int state, int hand, int marks) {
            int slot = slotOf(to);
            boolean isKnown = slot >= 0 && (slots[slot] > 0 || addState(slot, state, hand));
            if (!isKnown || edgeCount >= MOST_EDGES) {
                isTooMuch = true;
                return;
            }
            edges[edgeCount] = (slots[slot] - 1) | (hand << STATE_BITS) | marks;
            edgeCount++;
        }

        /** Answers whether there was room for the state that was come to. */
        private boolean addState(int slot, int parent, int hand) {
            if (found >= MOST_STATES) {
                return false;
            }
            System.arraycopy(to, 0, rows, found * STATE_SIZE, STATE_SIZE);
            depths[found] = found == 0 ? 0 : depths[parent] + 1;
            parents[found] = parent;
            movers[found] = hand;
            found++;
            slots[slot] = found;
            return true;
        }

        /** Answers the slot that has the state, or else the empty one where it belongs; -1 if all are taken. */
        private int slotOf(long[] at) {
            int home = homeOf(at);
            for (int probe = 0; probe < SLOTS; probe++) {
                int slot = (home + probe) & (SLOTS - 1);
                if (slots[slot] == 0 || isLike(at, slots[slot] - 1)) {
                    return slot;
                }
            }
            return -1;
        }

        private static int homeOf(long[] at) {
            long mix = 0;
            for (int part = 0; part < STATE_SIZE; part++) {
                mix = (mix ^ at[part]) * SPREAD;
                mix ^= mix >>> 29;
            }
            return (int) ((mix * SPREAD) >>> (64 - SLOT_BITS));
        }

        private boolean isLike(long[] at, int state) {
            int row = state * STATE_SIZE;
            for (int part = 0; part < STATE_SIZE; part++) {
                if (rows[row + part] != at[part]) {
                    return false;
                }
            }
            return true;
        }

        int numberOf(long[] at) {
            int slot = slotOf(at);
            return slot < 0 ? -1 : slots[slot] - 1;
        }

        long hand(int state, int hand) {
            return rows[state * STATE_SIZE + hand];
        }

        int word(int state, int word) {
            return Shelf.word(rows[state * STATE_SIZE + WORDS_AT], word);
        }

        boolean isEnd(int state) {
            return firsts[state] == firsts[state + 1];
        }

        int edgeTarget(int edge) {
            return edges[edge] & ((1 << STATE_BITS) - 1);
        }

        int edgeHand(int edge) {
            return (edges[edge] >> STATE_BITS) & 3;
        }

        boolean isByStep(int edge) {
            return (edges[edge] & BY_STEP) != 0;
        }

        boolean isGoingInside(int edge) {
            return (edges[edge] & GOES_INSIDE) != 0;
        }

        int inside(int state) {
            int many = 0;
            for (int hand = 0; hand < shelf.hands; hand++) {
                if (Hand.has(hand(state, hand), Hand.INSIDE)) {
                    many++;
                }
            }
            return many;
        }

        int allHands() {
            return (1 << shelf.hands) - 1;
        }

        /** Answers a bit for each hand that has ended. */
        int endedHands(int state) {
            int ended = 0;
            for (int hand = 0; hand < shelf.hands; hand++) {
                if (shelf.hasEnded(hand(state, hand), hand)) {
                    ended |= 1 << hand;
                }
            }
            return ended;
        }

        /** Answers a bit for each value that some hand has decided. */
        int decisions(int state) {
            int values = 0;
            for (int hand = 0; hand < shelf.hands; hand++) {
                int decided = Hand.decided(hand(state, hand));
                if (decided >= 0) {
                    values |= 1 << decided;
                }
            }
            return values;
        }

        /** Needs a state whose row has the move. */
        int rowMover(int state, int index) {
            int at = state;
            for (int depth = depths[state]; depth > index + 1; depth--) {
                at = parents[at];
            }
            return movers[at];
        }

        int outcomes() {
            Arrays.fill(outcomeSlots, 0L);
            int many = 0;
            for (int state = 0; state < found; state++) {
                if (isEnd(state) && isNewOutcome(state)) {
                    many++;
                }
            }
            return many;
        }

        private boolean isNewOutcome(int state) {
            // An outcome of zeros alone must be told from an empty slot, hence the bit at the top.
            long outcome = 1;
            for (int hand = 0; hand < MOST_HANDS; hand++) {
                outcome = (outcome << (4 * REGISTERS)) | Hand.registers(hand(state, hand));
            }
            int home = (int) ((outcome * SPREAD) >>> (64 - SLOT_BITS));
            for (int probe = 0; probe < SLOTS; probe++) {
                int slot = (home + probe) & (SLOTS - 1);
                if (outcomeSlots[slot] == outcome) {
                    return false;
                }
                if (outcomeSlots[slot] == 0) {
                    outcomeSlots[slot] = outcome;
                    return true;
                }
            }
            return false;
        }

        /** No row is longer than one to the state before any move to it, and that move: so each is a shortest one. */
        boolean hasShortRows() {
            for (int state = 0; state < found; state++) {
                for (int edge = firsts[state]; edge < firsts[state + 1]; edge++) {
                    if (depths[edgeTarget(edge)] > depths[state] + 1) {
                        return false;
                    }
                }
            }
            return depths[0] == 0;
        }

        boolean hasQuietEnds() {
            for (int state = 0; state < found; state++) {
                for (int hand = 0; hand < shelf.hands && isEnd(state); hand++) {
                    if (Hand.has(hand(state, hand), Hand.WRITING)) {
                        return false;
                    }
                }
            }
            return true;
        }
    }

    /**
     * The states put into circles, each with all that can be come to from each other (Tarjan's way, without
     * recursion). A circle's number is above those of all other circles that can be come to from it.
     */
    private static final class Circles {
        private static final int NOT_PUT = -2;
        private static final int ALL = -1;
        private static final int MOST_TURNS = 1000000;

        private final Search search;
        /** The circle of each state, -1 for a state that is left out. */
        private final int[] circleOf = new int[MOST_STATES];
        /** The states circle by circle, by rising numbers of the circles. */
        private final int[] order = new int[MOST_STATES];
        private final int[] entered = new int[MOST_STATES];
        private final int[] lowest = new int[MOST_STATES];
        private final int[] nextEdge = new int[MOST_STATES];
        private final int[] path = new int[MOST_STATES];
        private final int[] open = new int[MOST_STATES];
        private final int[] tally = new int[MOST_STATES];
        private int putFor = NOT_PUT;
        private int circles;
        private int ordered;
        private int clock;
        private int pathLength;
        private int openLength;

        Circles(Search search) {
            this.search = search;
        }

        void forget() {
            putFor = NOT_PUT;
        }

        boolean canWait(int hand) {
            putStates(hand);
            Arrays.fill(tally, 0);
            for (int state = 0; state < search.found; state++) {
                if (circleOf[state] >= 0) {
                    tally[circleOf[state]] |= moversWithin(state);
                }
            }
            for (int state = 0; state < search.found; state++) {
                int movers = circleOf[state] < 0 ? 0 : tally[circleOf[state]];
                if (movers != 0 && (movers | search.endedHands(state)) == search.allHands()) {
                    return true;
                }
            }
            return false;
        }

        /** Answers a bit for each hand whose step leads from the state to one of the same circle. */
        private int moversWithin(int state) {
            int movers = 0;
            for (int edge = search.firsts[state]; edge < search.firsts[state + 1]; edge++) {
                if (search.isByStep(edge) && circleOf[search.edgeTarget(edge)] == circleOf[state]) {
                    movers |= 1 << search.edgeHand(edge);
                }
            }
            return movers;
        }

        int mostEntries(int hand, int other) {
            putStates(other);
            Arrays.fill(tally, 0);
            int most = 0;
            for (int index = 0; index < ordered; index++) {
                int state = order[index];
                int entries = entriesFrom(state, hand);
                if (entries < 0) {
                    return -1;
                }
                tally[circleOf[state]] = Math.max(tally[circleOf[state]], entries);
                most = Math.max(most, entries);
            }
            return most;
        }

        /** Needs the tallies of all lower circles; answers -1 if the hand goes inside in the state's own circle. */
        private int entriesFrom(int state, int hand) {
            int most = 0;
            for (int edge = search.firsts[state]; edge < search.firsts[state + 1]; edge++) {
                int circle = circleOf[search.edgeTarget(edge)];
                boolean isEntry = search.isGoingInside(edge) && search.edgeHand(edge) == hand;
                if (circle == circleOf[state] && isEntry) {
                    return -1;
                }
                if (circle >= 0) {
                    most = Math.max(most, isEntry ? tally[circle] + 1 : tally[circle]);
                }
            }
            return most;
        }

        int undecided() {
            putStates(ALL);
            Arrays.fill(tally, 0);
            for (int index = 0; index < ordered; index++) {
                int state = order[index];
                tally[circleOf[state]] |= decisionsFrom(state);
            }
            int many = 0;
            for (int index = 0; index < ordered; index++) {
                if (Integer.bitCount(tally[circleOf[order[index]]]) > 1) {
                    many++;
                }
            }
            return many;
        }

        private int decisionsFrom(int state) {
            int values = search.isEnd(state) ? search.decisions(state) : 0;
            for (int edge = search.firsts[state]; edge < search.firsts[state + 1]; edge++) {
                int circle = circleOf[search.edgeTarget(edge)];
                values |= circle < 0 ? 0 : tally[circle];
            }
            return values;
        }

        /** Puts all states into circles, or those alone in which a hand is trying, and only moves between them. */
        private void putStates(int trying) {
            if (putFor == trying) {
                return;
            }
            putFor = trying;
            circles = 0;
            ordered = 0;
            clock = 0;
            pathLength = 0;
            openLength = 0;
            Arrays.fill(entered, 0);
            Arrays.fill(circleOf, -1);
            for (int state = 0; state < search.found; state++) {
                if (entered[state] == 0 && belongs(state)) {
                    walkFrom(state);
                }
            }
        }

        private boolean belongs(int state) {
            return putFor == ALL || Hand.has(search.hand(state, putFor), Hand.TRYING);
        }

        private void walkFrom(int root) {
            enter(root);
            for (int turn = 0; turn < MOST_TURNS && pathLength > 0; turn++) {
                int state = path[pathLength - 1];
                if (nextEdge[state] < search.firsts[state + 1]) {
                    follow(state, search.edgeTarget(nextEdge[state]));
                } else {
                    leave(state);
                }
            }
        }

        private void enter(int state) {
            clock++;
            entered[state] = clock;
            lowest[state] = clock;
            nextEdge[state] = search.firsts[state];
            path[pathLength] = state;
            pathLength++;
            open[openLength] = state;
            openLength++;
        }

        private void follow(int state, int target) {
            nextEdge[state]++;
            if (!belongs(target)) {
                return;
            }
            if (entered[target] == 0) {
                enter(target);
            } else if (circleOf[target] < 0) {
                lowest[state] = Math.min(lowest[state], entered[target]);
            }
        }

        private void leave(int state) {
            pathLength--;
            if (pathLength > 0) {
                int before = path[pathLength - 1];
                lowest[before] = Math.min(lowest[before], lowest[state]);
            }
            if (lowest[state] == entered[state]) {
                closeCircle(state);
            }
        }

        private void closeCircle(int state) {
            int member = -1;
            while (openLength > 0 && member != state) {
                openLength--;
                member = open[openLength];
                circleOf[member] = circles;
                order[ordered] = member;
                ordered++;
            }
            circles++;
        }
    }

    /** Calls with beginnings and ends, and the orders of them that one word and one queue allow. */
    private static final class History {
        private static final long NO_FIT = -1;
        private static final int COUNT_AT = 4;
        private static final int QUEUE_AT = 8;

        int size;
        final int[] first = new int[MOST_CALLS];
        private final char[] kinds = new char[MOST_CALLS];
        private final int[] values = new int[MOST_CALLS];
        private final int[] begins = new int[MOST_CALLS];
        private final int[] ends = new int[MOST_CALLS];
        /** Of each call a bit for each one that goes ahead of it. */
        private final int[] ahead = new int[MOST_CALLS];
        private final int[] trial = new int[MOST_CALLS];
        private boolean isCounted;
        private boolean hasFirst;
        private int orders;

        static boolean isKind(char kind) {
            return kind == 'w' || kind == 'r' || kind == 'e' || kind == 'd';
        }

        int newCall(char kind, int value, int begin, int end) {
            int call = size;
            kinds[call] = kind;
            values[call] = value;
            begins[call] = begin;
            ends[call] = end;
            ahead[call] = 0;
            for (int other = 0; other < call; other++) {
                if (ends[other] < begin) {
                    ahead[call] |= 1 << other;
                }
                if (end < begins[other]) {
                    ahead[other] |= 1 << call;
                }
            }
            size++;
            isCounted = false;
            return call;
        }

        void clear() {
            size = 0;
            isCounted = false;
        }

        int fitting() {
            if (!isCounted) {
                hasFirst = false;
                orders = ordersBehind(this, 0, 0, 0L);
                isCounted = true;
            }
            return orders;
        }

        /** Goes no deeper than there are calls, six at most. */
        private static int ordersBehind(History history, int placed, int used, long held) {
            if (placed >= history.size) {
                history.keepFirst();
                return 1;
            }
            int many = 0;
            for (int call = 0; call < history.size; call++) {
                long after = history.isFree(call, used) ? history.afterCall(call, held) : NO_FIT;
                if (after != NO_FIT) {
                    history.trial[placed] = call;
                    many += ordersBehind(history, placed + 1, used | 1 << call, after);
                }
            }
            return many;
        }

        /** Tells whether the call is not used, and all that go ahead of it are. */
        private boolean isFree(int call, int used) {
            return ((used >> call) & 1) == 0 && (ahead[call] & ~used) == 0;
        }

        private void keepFirst() {
            if (!hasFirst) {
                System.arraycopy(trial, 0, first, 0, MOST_CALLS);
                hasFirst = true;
            }
        }

        /**
         * What is held is the word (4 bits), how many are in the queue (4), and those, the first one lowest
         * (4 each). Answers what is held behind the call, or NO_FIT.
         */
        private long afterCall(int call, long held) {
            int value = values[call];
            int queued = (int) ((held >>> COUNT_AT) & 15);
            switch (kinds[call]) {
                case 'w':
                    return (held & ~15L) | value;
                case 'r':
                    return (held & 15) == value ? held : NO_FIT;
                case 'e':
                    return (held + (1L << COUNT_AT)) | ((long) value << (QUEUE_AT + 4 * queued));
                default:
                    if (queued == 0 || ((held >>> QUEUE_AT) & 15) != value) {
                        return NO_FIT;
                    }
                    return (held & 15) | ((queued - 1L) << COUNT_AT) | ((held >>> (QUEUE_AT + 4)) << QUEUE_AT);
            }
        }

        boolean firstFits() {
            long held = 0;
            int used = 0;
            for (int place = 0; place < size && held != NO_FIT; place++) {
                int call = first[place];
                if (!isFree(call, used)) {
                    return false;
                }
                used |= 1 << call;
                held = afterCall(call, held);
            }
            return held != NO_FIT;
        }
    }
}
