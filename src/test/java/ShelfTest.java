/** Promises 1 to 8: what is told of words, hands, steps, buffers and deaths. */
public final class ShelfTest {
    private static final Class<?> NO_INDEX = IndexOutOfBoundsException.class;
    private static final Class<?> BAD = IllegalArgumentException.class;
    private static final Class<?> FULL = IllegalStateException.class;

    public static void main(String[] args) {
        newObject();
        addWord();
        addHand();
        addStepNumbers();
        addStepKinds();
        addStepOrderOfExceptions();
        dropAndCountSteps();
        setBuffers();
        setDeath();
        beginsARunAnew();
        throwingChangesNothing();
        Check.finish("ShelfTest");
    }

    private static void newObject() {
        Ticketdoor x = new Ticketdoor();
        Check.due("no word", NO_INDEX, () -> x.getWord(0));
        Check.due("no hand", NO_INDEX, () -> x.countSteps(0));
        Check.due("one state", 1, x::countStates);
        Check.due("no moves", 0, x::countMoves);
        Check.due("it is an end", 1, x::countEnds);
        Check.due("with the empty outcome", 1, x::countOutcomes);
        Check.due("no moves made", 0, x::start);
        Check.due("no calls", 0, x::dropCalls);
        Check.due("buffers are off", false, () -> x.setBuffers(false));
        Check.due("checksum", 217L, x::checksum);
        Check.due("sound", true, x::isSound);
    }

    private static void addWord() {
        Ticketdoor x = new Ticketdoor();
        Check.due("value below", BAD, () -> x.addWord(-1, false, 1));
        Check.due("value above", BAD, () -> x.addWord(10, true, 1));
        Check.due("most below, whole", BAD, () -> x.addWord(0, false, 0));
        Check.due("most below, safe", BAD, () -> x.addWord(0, true, 0));
        Check.due("most above", BAD, () -> x.addWord(0, true, 10));
        Check.due("far off", BAD, () -> x.addWord(Integer.MIN_VALUE, true, Integer.MAX_VALUE));
        Check.due("first", 0, () -> x.addWord(0, false, 1));
        Check.due("second", 1, () -> x.addWord(9, true, 9));
        Check.due("its value", 9, () -> x.getWord(1));
        Check.due("third", 2, () -> x.addWord(5, true, 1));
        Check.due("fourth", 3, () -> x.addWord(4, false, 9));
        Check.due("fifth", 4, () -> x.addWord(3, false, 2));
        Check.due("sixth", 5, () -> x.addWord(2, false, 3));
        Check.due("seventh", FULL, () -> x.addWord(1, false, 1));
        Check.due("seventh, out of range", BAD, () -> x.addWord(10, false, 1));
        int[] values = {0, 9, 5, 4, 3, 2};
        for (int word = 0; word < 6; word++) {
            int at = word;
            Check.due("value " + word, values[word], () -> x.getWord(at));
        }
    }

    private static void addHand() {
        Ticketdoor x = new Ticketdoor();
        Check.due("first", 0, x::addHand);
        Check.due("without steps", 0, () -> x.countSteps(0));
        Check.due("ended", UnsupportedOperationException.class, () -> x.act(0, 0));
        Check.due("second", 1, x::addHand);
        Check.due("third", 2, x::addHand);
        Check.due("fourth", FULL, x::addHand);
        Check.due("no fourth", NO_INDEX, () -> x.countSteps(3));
    }

    private static Class<?> refused(Ticketdoor x, char kind, int a, int b, int c) {
        try {
            x.addStep(0, kind, a, b, c);
            return null;
        } catch (RuntimeException e) {
            return e.getClass();
        }
    }

    /** Which numbers a kind takes is told by the greatest ones of a, b and c. */
    private static void addStepNumbers() {
        String kinds = "rwk+m=<jsnfytiodzh";
        int[][] greatest = {
            {2, 1, 0}, {2, 1, 0}, {2, 9, 0}, {2, 2, 0}, {2, 2, 0}, {2, 2, 16}, {2, 2, 16}, {0, 0, 16}, {2, 1, 0},
            {2, 1, 2}, {2, 1, 0}, {0, 0, 0}, {0, 0, 0}, {0, 0, 0}, {0, 0, 0}, {2, 0, 0}, {2, 0, 0}, {0, 0, 0}};
        for (int index = 0; index < kinds.length(); index++) {
            char kind = kinds.charAt(index);
            for (int number = 0; number < 3 * 20; number++) {
                int[] abc = new int[3];
                abc[number / 20] = number % 20 - 2;
                boolean fits = abc[number / 20] >= 0 && abc[number / 20] <= greatest[index][number / 20];
                Ticketdoor x = Check.hands("");
                x.addWord(0, false, 1);
                x.addWord(0, false, 1);
                Check.due(kind + " " + abc[0] + " " + abc[1] + " " + abc[2], fits ? null : BAD,
                        () -> refused(x, kind, abc[0], abc[1], abc[2]));
            }
            Ticketdoor x = Check.hands("");
            x.addWord(0, false, 1);
            x.addWord(0, false, 1);
            int[] most = greatest[index];
            Check.due(kind + " with its greatest", null, () -> refused(x, kind, most[0], most[1], most[2]));
        }
    }

    private static void addStepKinds() {
        int taken = 0;
        Ticketdoor x = null;
        for (int kind = 0; kind <= Character.MAX_VALUE; kind++) {
            if (kind % 256 == 0) {
                x = Check.hands("");
                x.addWord(0, false, 1);
            }
            Class<?> thrown = refused(x, (char) kind, 0, 0, 0);
            if (thrown == null) {
                taken++;
                x.dropSteps(0);
            } else if (thrown != BAD) {
                Check.that("kind " + kind + " threw " + thrown, false);
            }
        }
        addStepWords();
        int many = taken;
        Check.due("eighteen kinds", 18, () -> many);
    }

    private static void addStepWords() {
        Ticketdoor x = Check.hands("");
        x.addWord(0, false, 1);
        Check.due("a word that is not there", BAD, () -> refused(x, 'r', 0, 1, 0));
        x.addWord(0, false, 1);
        Check.due("and is there then", null, () -> refused(x, 'r', 0, 1, 0));
        Check.due("far off", BAD, () -> refused(x, '=', Integer.MAX_VALUE, Integer.MIN_VALUE, -1));
    }

    private static void addStepOrderOfExceptions() {
        Ticketdoor x = Check.hands("");
        Check.due("no hand before a bad kind", NO_INDEX, () -> x.addStep(1, '?', 0, 0, 0));
        Check.due("hand below", NO_INDEX, () -> x.addStep(-1, 't', 0, 0, 0));
        for (int step = 0; step < 16; step++) {
            int number = step;
            Check.due("step " + step, number, () -> x.addStep(0, 't', 0, 0, 0));
        }
        Check.due("a seventeenth", FULL, () -> x.addStep(0, 't', 0, 0, 0));
        Check.due("a bad one before a full hand", BAD, () -> x.addStep(0, 't', 0, 0, 1));
        Check.due("still sixteen", 16, () -> x.countSteps(0));
    }

    private static void dropAndCountSteps() {
        Ticketdoor x = Check.hands("t; i; o", "t");
        Check.due("three", 3, () -> x.countSteps(0));
        Check.due("one", 1, () -> x.countSteps(1));
        Check.due("drop three", 3, () -> x.dropSteps(0));
        Check.due("none left", 0, () -> x.countSteps(0));
        Check.due("the other keeps its own", 1, () -> x.countSteps(1));
        Check.due("drop none", 0, () -> x.dropSteps(0));
        Check.due("the next one is 0", 0, () -> x.addStep(0, 'h', 0, 0, 0));
        Check.due("drop below", NO_INDEX, () -> x.dropSteps(-1));
        Check.due("drop above", NO_INDEX, () -> x.dropSteps(2));
        Check.due("count below", NO_INDEX, () -> x.countSteps(-1));
        Check.due("count above", NO_INDEX, () -> x.countSteps(2));
    }

    private static void setBuffers() {
        Ticketdoor x = new Ticketdoor();
        x.addWord(0, true, 3);
        Check.withHands(x, "k 0 5; w 0 0");
        Check.due("were off", false, () -> x.setBuffers(true));
        x.act(0, 0);
        x.act(0, 0);
        Check.due("written to the buffer in one move", 1, () -> x.countBuffered(0));
        Check.due("were on", true, () -> x.setBuffers(true));
        Check.due("were on again", true, () -> x.setBuffers(false));
        x.act(0, 0);
        x.act(0, 0);
        Check.due("nothing in the buffer", 0, () -> x.countBuffered(0));
        Check.due("but being written", 1, () -> x.getNext(0));
    }

    private static void setDeath() {
        Ticketdoor x = Check.hands("t; t", "t");
        Check.due("-1 at first", -1, () -> x.setDeath(0, 16));
        Check.due("16 then", 16, () -> x.setDeath(0, 0));
        Check.due("of its own", -1, () -> x.setDeath(1, 1));
        Check.due("0 then", 0, () -> x.setDeath(0, -1));
        Check.due("cannot any more", UnsupportedOperationException.class, () -> x.die(0));
        Check.due("the other can", 1, () -> x.die(1));
        Check.due("below", BAD, () -> x.setDeath(0, -2));
        Check.due("above", BAD, () -> x.setDeath(0, 17));
        Check.due("no hand", NO_INDEX, () -> x.setDeath(2, 17));
        Check.due("no hand below", NO_INDEX, () -> x.setDeath(-1, 0));
        Check.due("-1 stays", -1, () -> x.setDeath(0, 3));
        x.dropSteps(0);
        Check.due("is kept when steps are dropped", 3, () -> x.setDeath(0, 3));
    }

    private static void beginsARunAnew() {
        Ticketdoor x = Check.hands("j 0 0 0", "");
        x.act(0, 0);
        x.addWord(0, false, 1);
        Check.due("addWord", 0, x::start);
        x.act(0, 0);
        x.addHand();
        Check.due("addHand", 0, x::start);
        x.act(0, 0);
        x.addStep(1, 't', 0, 0, 0);
        Check.due("addStep", 0, x::start);
        x.act(0, 0);
        x.dropSteps(2);
        Check.due("dropSteps, also of none", 0, x::start);
        x.act(0, 0);
        x.setBuffers(false);
        Check.due("setBuffers, also to the same", 0, x::start);
        x.act(0, 0);
        x.setDeath(0, -1);
        Check.due("setDeath, also to the same", 0, x::start);
        x.act(0, 0);
        x.addCall('w', 0, 0, 1);
        x.dropCalls();
        x.countSteps(0);
        x.countStates();
        x.movesAlone(0);
        Check.due("nothing else", 1, x::start);
        Check.due("but start itself", 0, x::start);
    }

    private static void throwingChangesNothing() {
        Ticketdoor x = Check.hands("j 0 0 0", "t", "");
        for (int word = 0; word < 6; word++) {
            x.addWord(1, false, 1);
        }
        x.act(0, 0);
        long before = x.checksum();
        Check.due("addWord", FULL, () -> x.addWord(0, false, 1));
        Check.due("addHand", FULL, x::addHand);
        Check.due("addStep", BAD, () -> x.addStep(0, 't', 1, 0, 0));
        Check.due("dropSteps", NO_INDEX, () -> x.dropSteps(3));
        Check.due("setDeath", BAD, () -> x.setDeath(0, 17));
        Check.due("act", java.util.NoSuchElementException.class, () -> x.act(0, 1));
        Check.due("flush", java.util.NoSuchElementException.class, () -> x.flush(0));
        Check.due("die", UnsupportedOperationException.class, () -> x.die(0));
        Check.due("the run goes on", before, x::checksum);
        Check.due("with its one move", 1, x::start);
    }
}
