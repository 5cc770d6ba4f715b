import java.util.NoSuchElementException;

/** Promises 24 to 36: hands alone, and runs move by move. */
public final class RunTest {
    private static final Class<?> NO_INDEX = IndexOutOfBoundsException.class;
    private static final Class<?> BAD = IllegalArgumentException.class;
    private static final Class<?> CANNOT = UnsupportedOperationException.class;
    private static final Class<?> NONE = NoSuchElementException.class;

    public static void main(String[] args) {
        alone();
        aloneForLong();
        start();
        actExceptions();
        ownSteps();
        jumps();
        wordSteps();
        swaps();
        safeWrites();
        tornReads();
        twoWriters();
        buffers();
        fullBuffers();
        waitsForBuffers();
        deaths();
        insideAndTrying();
        decisions();
        numbersOutOfRange();
        states();
        Check.finish("RunTest");
    }

    private static Ticketdoor words(int first, int second) {
        Ticketdoor x = new Ticketdoor();
        x.addWord(first, false, 1);
        x.addWord(second, false, 1);
        return x;
    }

    private static void act(Ticketdoor x, int hand, int times) {
        for (int time = 0; time < times; time++) {
            x.act(hand, 0);
        }
    }

    private static void alone() {
        Check.due("at once", 1, () -> Check.hands("i").movesAlone(0));
        Check.due("no steps", -1, () -> Check.hands("").movesAlone(0));
        Check.due("ends before", -1, () -> Check.hands("t; h; i").movesAlone(0));
        Check.due("the second hand", 2, () -> Check.hands("", "t; i").movesAlone(1));
        Check.due("no hand", NO_INDEX, () -> Check.hands("i").movesAlone(1));
        Check.due("no hand below", NO_INDEX, () -> Check.hands("i").movesAlone(-1));
        Check.due("a toss gives 0", 3, () -> Check.hands("z 0; = 0 1 3; h; i").movesAlone(0));
        Ticketdoor safe = new Ticketdoor();
        safe.addWord(0, true, 9);
        Check.withHands(safe, "w 0 0; i", "r 0 0; i");
        Check.due("a safe word takes two", 3, () -> safe.movesAlone(0));
        act(safe, 0, 1);
        Check.due("from the first state", 3, () -> safe.movesAlone(0));
        Check.due("nobody else is writing", 2, () -> safe.movesAlone(1));
        Check.due("the run goes on", 1, safe::start);
        Ticketdoor mortal = Check.hands("t; i");
        mortal.setDeath(0, 16);
        Check.due("without dying", 2, () -> mortal.movesAlone(0));
        Ticketdoor x = Check.withHands(words(0, 0), "k 0 1; w 0 0; w 0 0; w 0 0; i", "w 0 0; y; i", "w 0 0");
        x.setBuffers(true);
        Check.due("room for a third write", 6, () -> x.movesAlone(0));
        Check.due("y waits", 4, () -> x.movesAlone(1));
        Check.due("ends with a buffer", -1, () -> x.movesAlone(2));
    }

    /** Two counters, the inner one of 29 moves a round, and as many idle steps as are told. */
    private static int movesOfCounters(String idle) {
        Ticketdoor x = words(9, 3);
        int at = idle.length() / 3;
        Check.withHands(x, idle + "k 1 9; f 0 0; = 0 1 " + (at + 4) + "; j 0 0 " + (at + 1) + "; f 0 1; = 0 1 " + (at + 7)
                + "; j 0 0 " + (at + 1) + "; i");
        return x.movesAlone(0);
    }

    private static void aloneForLong() {
        Check.due("198", 198, () -> movesOfCounters(""));
        Check.due("200", 200, () -> movesOfCounters("o; o; "));
        Check.due("201", -1, () -> movesOfCounters("o; o; o; "));
        Check.due("for ever", -1, () -> Check.hands("j 0 0 0").movesAlone(0));
    }

    private static void start() {
        Ticketdoor x = Check.withHands(words(4, 5), "k 0 7; w 0 0; t; i; d 0");
        Check.due("nothing yet", 0, x::start);
        act(x, 0, 5);
        Check.due("five moves", 5, x::start);
        Check.due("none any more", 0, x::start);
        Check.due("the word as told", 4, () -> x.getWord(0));
        Check.due("the register", 0, () -> x.getRegister(0, 0));
        Check.due("the step", 0, () -> x.getNext(0));
        Check.due("outside", false, () -> x.isInside(0));
        Check.due("undecided", NONE, () -> x.getDecided(0));
    }

    private static void actExceptions() {
        Ticketdoor x = Check.hands("z 0; o");
        Check.due("no hand", NO_INDEX, () -> x.act(1, 9));
        Check.due("no hand below", NO_INDEX, () -> x.act(-1, 0));
        Check.due("a toss has no third", NONE, () -> x.act(0, 2));
        Check.due("none below", NONE, () -> x.act(0, -1));
        Check.due("the second", 1, () -> x.act(0, 1));
        Check.due("1 was tossed", 1, () -> x.getRegister(0, 0));
        Check.due("one choice alone", NONE, () -> x.act(0, 1));
        Check.due("it", 2, () -> x.act(0, 0));
        Check.due("has ended", CANNOT, () -> x.act(0, 0));
        Check.due("before the choice", CANNOT, () -> x.act(0, 9));
    }

    private static void ownSteps() {
        Ticketdoor x = Check.hands("k 0 7; k 1 6; + 0 1; m 1 0; m 0 1; k 2 9; + 2 2; y; o");
        act(x, 0, 3);
        Check.due("7 and 6 are 3", 3, () -> x.getRegister(0, 0));
        Check.due("b stays", 6, () -> x.getRegister(0, 1));
        act(x, 0, 1);
        Check.due("the greater one stays", 6, () -> x.getRegister(0, 1));
        act(x, 0, 1);
        Check.due("the greater one comes", 6, () -> x.getRegister(0, 0));
        act(x, 0, 2);
        Check.due("with itself", 8, () -> x.getRegister(0, 2));
        act(x, 0, 2);
        Check.due("y without buffers", 9, () -> x.getNext(0));
        Check.due("nine moves", 9, x::start);
    }

    private static int nextOf(String program, int times) {
        Ticketdoor x = Check.hands(program);
        act(x, 0, times);
        return x.getNext(0);
    }

    private static void jumps() {
        Check.due("= goes on", 9, () -> nextOf("k 0 2; k 1 2; = 0 1 9", 3));
        Check.due("= does not", 3, () -> nextOf("k 0 2; k 1 3; = 0 1 9", 3));
        Check.due("< goes on", 0, () -> nextOf("k 0 2; k 1 3; < 0 1 0", 3));
        Check.due("< does not, alike", 3, () -> nextOf("k 0 3; k 1 3; < 0 1 0", 3));
        Check.due("< does not, above", 3, () -> nextOf("k 0 4; k 1 3; < 0 1 0", 3));
        Check.due("j in any case", 16, () -> nextOf("j 0 0 16", 1));
        Check.due("h", 16, () -> nextOf("o; h; o", 2));
        Check.due("as many as it has", 2, () -> nextOf("o; o", 2));
        Check.due("without steps", 0, () -> nextOf("", 0));
        Check.due("ended behind the last one", CANNOT, () -> nextOf("j 0 0 5", 2));
        Check.due("sixteen steps", 16, () -> nextOf("o; o; o; o; o; o; o; o; o; o; o; o; o; o; o; o", 16));
    }

    private static void wordSteps() {
        Ticketdoor x = Check.withHands(words(4, 9), "r 0 0; w 0 1; k 2 8; s 2 0; f 1 0; f 1 0", "k 0 9; w 0 1; f 2 1");
        act(x, 0, 1);
        Check.due("read", 4, () -> x.getRegister(0, 0));
        act(x, 0, 1);
        Check.due("written at once", 4, () -> x.getWord(1));
        Check.due("the other one stays", 4, () -> x.getWord(0));
        act(x, 0, 2);
        Check.due("exchanged to the word", 8, () -> x.getWord(0));
        Check.due("and to the register", 4, () -> x.getRegister(0, 2));
        act(x, 0, 1);
        Check.due("f makes a the word", 8, () -> x.getRegister(0, 1));
        Check.due("and the word one more", 9, () -> x.getWord(0));
        act(x, 0, 1);
        Check.due("f again", 9, () -> x.getRegister(0, 1));
        Check.due("modulo 10", 0, () -> x.getWord(0));
        act(x, 1, 3);
        Check.due("by another hand", 0, () -> x.getWord(1));
        Check.due("in its own register", 9, () -> x.getRegister(1, 2));
        Check.due("not in the first one's", 4, () -> x.getRegister(0, 2));
    }

    private static void swaps() {
        Ticketdoor x = Check.withHands(words(4, 0), "k 0 4; k 1 7; n 0 0 1; n 0 0 1", "k 0 7; n 0 0 0", "n 0 1 0; n 1 1 0");
        act(x, 0, 3);
        Check.due("swapped", 7, () -> x.getWord(0));
        Check.due("a is 1 then", 1, () -> x.getRegister(0, 0));
        Check.due("c stays", 7, () -> x.getRegister(0, 1));
        act(x, 0, 1);
        Check.due("not swapped", 7, () -> x.getWord(0));
        Check.due("a is 0 then", 0, () -> x.getRegister(0, 0));
        act(x, 1, 2);
        Check.due("by the register as it was", 7, () -> x.getWord(0));
        Check.due("c is a and is 1 then", 1, () -> x.getRegister(1, 0));
        act(x, 2, 2);
        Check.due("0 by 0, then 1", 1, () -> x.getWord(1));
        Check.due("0 was there", 1, () -> x.getRegister(2, 1));
    }

    private static void safeWrites() {
        Ticketdoor x = new Ticketdoor();
        x.addWord(3, true, 2);
        Check.withHands(x, "k 0 8; w 0 0; o", "s 0 0", "n 0 0 1; f 2 0");
        act(x, 0, 1);
        Check.due("the first one", 2, () -> x.act(0, 0));
        Check.due("is still at the step", 1, () -> x.getNext(0));
        Check.due("the value as before", 3, () -> x.getWord(0));
        Check.due("exchanged whole", 3, () -> x.act(1, 0));
        Check.due("gives the word", 3, () -> x.getRegister(1, 0));
        Check.due("which is 0 now", 0, () -> x.getWord(0));
        Check.due("swapped whole", 4, () -> x.act(2, 0));
        Check.due("as it is 0", 1, () -> x.getRegister(2, 0));
        Check.due("one more, whole", 5, () -> x.act(2, 0));
        Check.due("it was 0", 0, () -> x.getRegister(2, 2));
        Check.due("1 now", 1, () -> x.getWord(0));
        Check.due("the second one", 6, () -> x.act(0, 0));
        Check.due("goes on", 2, () -> x.getNext(0));
        Check.due("has the register's value", 8, () -> x.getWord(0));
    }

    private static void tornReads() {
        Ticketdoor x = new Ticketdoor();
        x.addWord(9, true, 4);
        x.addWord(9, true, 9);
        Check.withHands(x, "w 0 0", "r 0 0; r 1 1; r 2 0; r 2 0");
        act(x, 0, 1);
        Check.due("no more than its greatest", NONE, () -> x.act(1, 5));
        Check.due("its greatest", 2, () -> x.act(1, 4));
        Check.due("is read", 4, () -> x.getRegister(1, 0));
        Check.due("another word is whole", NONE, () -> x.act(1, 1));
        act(x, 1, 1);
        Check.due("its value", 9, () -> x.getRegister(1, 1));
        act(x, 1, 1);
        Check.due("the least", 0, () -> x.getRegister(1, 2));
        act(x, 0, 1);
        Check.due("not written any more", NONE, () -> x.act(1, 1));
        act(x, 1, 1);
        Check.due("the new value", 0, () -> x.getRegister(1, 2));
    }

    private static void twoWriters() {
        Ticketdoor x = new Ticketdoor();
        x.addWord(5, true, 1);
        Check.withHands(x, "k 0 1; w 0 0", "k 0 2; w 0 0", "r 0 0");
        act(x, 0, 2);
        act(x, 1, 2);
        act(x, 0, 1);
        Check.due("the first one is done", 1, () -> x.getWord(0));
        Check.due("the second one is writing", NONE, () -> x.act(2, 2));
        Check.due("any value", 6, () -> x.act(2, 1));
        act(x, 1, 1);
        Check.due("the second one is done", 2, () -> x.getWord(0));
    }

    private static void buffers() {
        Ticketdoor x = new Ticketdoor();
        x.addWord(5, true, 1);
        x.addWord(6, false, 1);
        Check.withHands(x, "k 0 1; w 0 0; k 0 2; w 0 0; r 1 0; r 2 1", "r 0 0");
        x.setBuffers(true);
        act(x, 0, 2);
        Check.due("one thing", 1, () -> x.countBuffered(0));
        act(x, 0, 2);
        Check.due("two things", 2, () -> x.countBuffered(0));
        Check.due("none of the other", 0, () -> x.countBuffered(1));
        Check.due("the word as before", 5, () -> x.getWord(0));
        act(x, 0, 2);
        Check.due("the newest of the own buffer", 2, () -> x.getRegister(0, 1));
        Check.due("or the word", 6, () -> x.getRegister(0, 2));
        act(x, 1, 1);
        Check.due("another hand reads the word", 5, () -> x.getRegister(1, 0));
        Check.due("has ended", CANNOT, () -> x.act(0, 0));
        Check.due("the oldest goes, one is left", 1, () -> x.flush(0));
        Check.due("the oldest one's value", 1, () -> x.getWord(0));
        Check.due("the newest goes, none is left", 0, () -> x.flush(0));
        Check.due("the newest one's value", 2, () -> x.getWord(0));
        Check.due("empty", NONE, () -> x.flush(0));
        Check.due("no hand", NO_INDEX, () -> x.flush(2));
        Check.due("no hand below", NO_INDEX, () -> x.flush(-1));
        Check.due("nine moves", 9, x::start);
    }

    private static void fullBuffers() {
        Ticketdoor x = new Ticketdoor();
        for (int word = 0; word < 6; word++) {
            x.addWord(0, false, 1);
        }
        Check.withHands(x, "k 0 9; w 0 5; k 0 8; w 0 4; k 0 7; w 0 3; r 1 5");
        x.setBuffers(true);
        act(x, 0, 5);
        Check.due("no room", CANNOT, () -> x.act(0, 0));
        Check.due("no room before the choice", CANNOT, () -> x.act(0, 1));
        Check.due("one is left", 1, () -> x.flush(0));
        Check.due("word 5", 9, () -> x.getWord(5));
        act(x, 0, 2);
        Check.due("the word, as it has gone", 9, () -> x.getRegister(0, 1));
        Check.due("two again", 2, () -> x.countBuffered(0));
        Check.due("one left", 1, () -> x.flush(0));
        Check.due("word 4", 8, () -> x.getWord(4));
        Check.due("none left", 0, () -> x.flush(0));
        Check.due("word 3", 7, () -> x.getWord(3));
    }

    private static void waitsForBuffers() {
        for (String kind : new String[] {"s 0 0", "n 0 0 0", "f 0 0", "y"}) {
            Ticketdoor x = Check.withHands(words(0, 0), "w 0 1; " + kind, kind);
            x.setBuffers(true);
            act(x, 0, 1);
            Check.due(kind + " waits", CANNOT, () -> x.act(0, 0));
            Check.due(kind + " waits for its own alone", 2, () -> x.act(1, 0));
            Check.due(kind + " flush", 0, () -> x.flush(0));
            Check.due(kind + " goes on", 4, () -> x.act(0, 0));
        }
    }

    private static void deaths() {
        Ticketdoor x = new Ticketdoor();
        x.addWord(5, true, 1);
        Check.withHands(x, "k 0 4; k 1 3; k 2 2; d 0; i; t; w 0 0; o; r 0 0", "r 0 0; o");
        x.setDeath(0, 7);
        act(x, 0, 7);
        Check.due("dies", 7, () -> x.die(0));
        Check.due("the step as told", 7, () -> x.getNext(0));
        Check.due("the word as before", 5, () -> x.getWord(0));
        Check.due("is written no more", NONE, () -> x.act(1, 1));
        for (int register = 0; register < 3; register++) {
            int at = register;
            Check.due("register " + register, 0, () -> x.getRegister(0, at));
        }
        Check.due("not inside", false, () -> x.isInside(0));
        Check.due("not trying", false, () -> x.isTrying(0));
        Check.due("what it decided stays", 4, () -> x.getDecided(0));
        Check.due("once alone", CANNOT, () -> x.die(0));
        act(x, 0, 1);
        Check.due("once alone, later too", CANNOT, () -> x.die(0));
        Check.due("the other cannot", CANNOT, () -> x.die(1));
        Check.due("no hand", NO_INDEX, () -> x.die(2));
        Check.due("no hand below", NO_INDEX, () -> x.die(-1));
        Check.due("nine moves", 9, x::start);
        Check.due("can again", 7, () -> x.die(0));
        x.setDeath(1, 16);
        act(x, 1, 2);
        Check.due("has ended", CANNOT, () -> x.die(1));
        x.start();
        Check.due("ends by dying", 16, () -> x.die(1));
        Check.due("has ended by it", CANNOT, () -> x.act(1, 0));
        Ticketdoor y = Check.withHands(words(5, 5), "w 0 0; w 0 1; o", "r 0 0");
        y.setBuffers(true);
        y.setDeath(0, 0);
        act(y, 0, 2);
        y.die(0);
        Check.due("its buffer is lost", 0, () -> y.countBuffered(0));
        Check.due("and came to no word", 5, () -> y.getWord(0));
        Check.due("it writes anew", 4, () -> y.act(0, 0));
        Check.due("to its buffer", 1, () -> y.countBuffered(0));
    }

    private static void insideAndTrying() {
        Ticketdoor x = Check.hands("t; i; t; o; i; o", "o");
        boolean[] inside = {false, false, true, true, false, true, false};
        boolean[] trying = {false, true, false, true, true, false, false};
        for (int move = 0; move < inside.length; move++) {
            Check.due("inside after " + move, inside[move], () -> x.isInside(0));
            Check.due("trying after " + move, trying[move], () -> x.isTrying(0));
            Check.due("the other after " + move, false, () -> x.isInside(1) || x.isTrying(1));
            if (move + 1 < inside.length) {
                x.act(0, 0);
            }
        }
        Check.due("ended inside", true, () -> {
            Ticketdoor y = Check.hands("i; h");
            act(y, 0, 2);
            return y.isInside(0);
        });
    }

    private static void decisions() {
        Ticketdoor x = Check.hands("d 0; k 2 9; d 2", "o");
        Check.due("nothing", NONE, () -> x.getDecided(0));
        act(x, 0, 1);
        Check.due("0", 0, () -> x.getDecided(0));
        act(x, 0, 2);
        Check.due("anew", 9, () -> x.getDecided(0));
        Check.due("the other nothing", NONE, () -> x.getDecided(1));
    }

    private static void numbersOutOfRange() {
        Ticketdoor x = Check.withHands(words(1, 2), "o", "o");
        for (int hand : new int[] {-1, 2, 3, Integer.MAX_VALUE, Integer.MIN_VALUE}) {
            Check.due("getNext", NO_INDEX, () -> x.getNext(hand));
            Check.due("getRegister", NO_INDEX, () -> x.getRegister(hand, 3));
            Check.due("isInside", NO_INDEX, () -> x.isInside(hand));
            Check.due("isTrying", NO_INDEX, () -> x.isTrying(hand));
            Check.due("getDecided", NO_INDEX, () -> x.getDecided(hand));
            Check.due("countBuffered", NO_INDEX, () -> x.countBuffered(hand));
            Check.due("getWord", NO_INDEX, () -> x.getWord(hand));
        }
        Check.due("register below", BAD, () -> x.getRegister(0, -1));
        Check.due("register above", BAD, () -> x.getRegister(1, 3));
    }

    /** The states of a read while a safe word is written, numbered by hand. */
    private static void states() {
        Ticketdoor x = new Ticketdoor();
        x.addWord(0, true, 2);
        Check.withHands(x, "w 0 0", "r 0 0");
        Check.due("the first one", 0, x::getState);
        x.act(1, 0);
        Check.due("read first", 2, x::getState);
        x.act(0, 0);
        Check.due("and begun to write", 4, x::getState);
        x.act(0, 0);
        Check.due("and written", 7, x::getState);
        x.start();
        x.act(0, 0);
        Check.due("begun to write", 1, x::getState);
        x.act(1, 2);
        Check.due("read 2", 6, x::getState);
        x.act(0, 0);
        Check.due("the last one", 9, x::getState);
        x.start();
        x.act(0, 0);
        x.act(0, 0);
        Check.due("written", 3, x::getState);
        x.start();
        Check.due("the first one again", 0, x::getState);
    }
}
