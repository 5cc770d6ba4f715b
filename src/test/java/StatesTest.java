import java.util.NoSuchElementException;

/** Promises 9 to 14 and 17 to 20: all states, moves, ends, rows, words and registers of ends. */
public final class StatesTest {
    private static final Class<?> NO_INDEX = IndexOutOfBoundsException.class;
    private static final Class<?> BAD = IllegalArgumentException.class;
    private static final Class<?> TOO_MANY = ArithmeticException.class;
    private static final Class<?> NONE = NoSuchElementException.class;

    public static void main(String[] args) {
        countsOfOwnMoves();
        countsOfTornReads();
        countsOfDeaths();
        countsOfBuffers();
        statesTellAllParts();
        mostInside();
        rows();
        rowsOfTwoInside();
        wordsAndRegistersOfEnds();
        outcomes();
        greatest();
        storeBuffers();
        mutualExclusion();
        justAThousand();
        overAThousand();
        changesAreSeen();
        allWordsAndHands(7);
        allWordsAndHands(8);
        allWordsAndHands(9);
        Check.finish("StatesTest");
    }

    private static void counts(String what, Ticketdoor x, int states, int moves, int ends) {
        Check.due(what + ": states", states, x::countStates);
        Check.due(what + ": moves", moves, x::countMoves);
        Check.due(what + ": ends", ends, x::countEnds);
    }

    private static void countsOfOwnMoves() {
        counts("a hand without steps", Check.hands(""), 1, 0, 1);
        counts("two steps", Check.hands("k 0 1; k 0 2"), 3, 2, 1);
        counts("two hands", Check.hands("t", "t"), 4, 4, 1);
        counts("three hands", Check.hands("t", "t", "t"), 8, 12, 1);
        counts("a move to itself", Check.hands("j 0 0 0"), 1, 1, 0);
        counts("a toss", Check.hands("z 0"), 3, 2, 2);
        counts("a toss that is lost", Check.hands("z 0; k 0 0"), 4, 4, 1);
        counts("a toss again and again", Check.hands("z 0; j 0 0 0"), 4, 6, 0);
        counts("unlike steps behind the last one", Check.hands("z 0; = 0 1 7; k 0 0; j 0 0 9"), 7, 6, 2);
        counts("behind 'h'", Check.hands("h; k 0 1"), 2, 1, 1);
    }

    private static Ticketdoor tornRead() {
        Ticketdoor x = new Ticketdoor();
        x.addWord(0, true, 2);
        return Check.withHands(x, "w 0 0", "r 0 0");
    }

    private static void countsOfTornReads() {
        Ticketdoor x = tornRead();
        counts("a read while it is written", x, 10, 11, 3);
        Check.due("0 is kept", true, () -> x.canKeep(1, 0, 0));
        Check.due("2 is kept", true, () -> x.canKeep(1, 0, 2));
        Check.due("3 is not", false, () -> x.canKeep(1, 0, 3));
        Check.due("three outcomes", 3, x::countOutcomes);
        Check.due("the word has 0 alone", 0, () -> x.greatest(0));
        x.setBuffers(true);
        Check.due("all words are whole with buffers", 1, x::countOutcomes);
        Ticketdoor whole = new Ticketdoor();
        whole.addWord(0, false, 2);
        counts("a whole word", Check.withHands(whole, "w 0 0", "r 0 0"), 4, 4, 1);
        Ticketdoor other = new Ticketdoor();
        other.addWord(0, true, 2);
        other.addWord(0, true, 9);
        counts("another word is written", Check.withHands(other, "w 0 1", "r 0 0"), 6, 7, 1);
        Ticketdoor most = new Ticketdoor();
        most.addWord(0, true, 9);
        Check.withHands(most, "w 0 0", "r 0 0", "r 0 0");
        Check.due("each of ten values", 100, most::countEnds);
    }

    private static void countsOfDeaths() {
        Ticketdoor x = Check.hands("j 0 0 0");
        x.setDeath(0, 0);
        counts("dies once", x, 2, 3, 0);
        Ticketdoor ended = Check.hands("");
        ended.setDeath(0, 0);
        counts("has ended", ended, 1, 0, 1);
        Ticketdoor inside = Check.hands("t; i");
        inside.setDeath(0, 16);
        counts("dies outside or inside, not at its end", inside, 4, 4, 2);
    }

    private static void countsOfBuffers() {
        Ticketdoor x = new Ticketdoor();
        x.addWord(0, false, 1);
        Check.withHands(x, "k 0 1; w 0 0");
        counts("whole", x, 3, 2, 1);
        x.setBuffers(true);
        counts("buffered", x, 4, 3, 1);
        Ticketdoor three = new Ticketdoor();
        three.addWord(0, false, 1);
        Check.withHands(three, "w 0 0; w 0 0; w 0 0");
        three.setBuffers(true);
        // next and how many are buffered: 00 11 10 22 21 20 32 31 30
        counts("no room for a third", three, 9, 10, 1);
        Ticketdoor wait = new Ticketdoor();
        wait.addWord(0, false, 1);
        Check.withHands(wait, "w 0 0; y");
        wait.setBuffers(true);
        counts("y waits", wait, 4, 3, 1);
    }

    /** Each program comes to two states that are alike but for one part. */
    private static void statesTellAllParts() {
        counts("trying", Check.hands("z 0; = 0 1 3; t; k 0 0"), 8, 7, 2);
        counts("inside", Check.hands("z 0; = 0 1 3; i; k 0 0"), 8, 7, 2);
        counts("decided", Check.hands("z 0; = 0 1 3; d 1; k 0 0"), 8, 7, 2);
        counts("nothing, so that they meet", Check.hands("z 0; = 0 1 3; o; k 0 0"), 7, 7, 1);
        for (int register = 0; register < 3; register++) {
            counts("register " + register, Check.hands("z " + register), 3, 2, 2);
        }
    }

    private static void mostInside() {
        Check.due("none", 0, () -> Check.hands("t; o", "t").mostInside());
        Check.due("one", 1, () -> Check.hands("t; i; o", "t").mostInside());
        Check.due("three", 3, () -> Check.hands("i; o", "i; o", "i; o").mostInside());
        Check.due("no hands", 0, () -> new Ticketdoor().mostInside());
    }

    private static void rows() {
        Ticketdoor x = Check.hands("i", "t; i");
        Check.due("one inside", 1, () -> x.rowLength(1));
        Check.due("by hand 0", 0, () -> x.rowAt(1, 0));
        Check.due("two inside", 3, () -> x.rowLength(2));
        Check.due("hand 0 first", 0, () -> x.rowAt(2, 0));
        Check.due("then hand 1", 1, () -> x.rowAt(2, 1));
        Check.due("hand 1 last", 1, () -> x.rowAt(2, 2));
        Check.due("no move 3", NONE, () -> x.rowAt(2, 3));
        Check.due("no move -1", NONE, () -> x.rowAt(2, -1));
        Check.due("no move far off", NONE, () -> x.rowAt(2, Integer.MAX_VALUE));
        Check.due("no three inside", NONE, () -> x.rowLength(3));
        Check.due("no row to three inside", NONE, () -> x.rowAt(3, 0));
        Check.due("many below", BAD, () -> x.rowLength(0));
        Check.due("many above", BAD, () -> x.rowLength(4));
        Check.due("many below, in a row", BAD, () -> x.rowAt(0, 0));
        Check.due("many above, in a row", BAD, () -> x.rowAt(4, 99));
    }

    private static void rowsOfTwoInside() {
        Ticketdoor x = Check.hands("o; o; i; o", "o; i; o", "t; i");
        Check.due("one inside by the shortest", 2, () -> x.rowLength(1));
        Check.due("hand 1", 1, () -> x.rowAt(1, 0));
        Check.due("hand 1 again", 1, () -> x.rowAt(1, 1));
        Check.due("two inside", 4, () -> x.rowLength(2));
        int[] movers = {1, 1, 2, 2};
        for (int index = 0; index < movers.length; index++) {
            int at = index;
            Check.due("move " + index, movers[index], () -> x.rowAt(2, at));
        }
        Check.due("three inside", 7, () -> x.rowLength(3));
        Check.due("the row goes by rising hands", 0, () -> x.rowAt(3, 0));
        Check.due("to its last one", 2, () -> x.rowAt(3, 6));
    }

    private static void wordsAndRegistersOfEnds() {
        Ticketdoor x = new Ticketdoor();
        x.addWord(5, false, 1);
        x.addWord(7, false, 1);
        Check.withHands(x, "k 1 3; w 1 0", "k 2 4; w 2 0");
        Check.due("3 at an end", true, () -> x.canEnd(0, 3));
        Check.due("4 at an end", true, () -> x.canEnd(0, 4));
        Check.due("5 at no end", false, () -> x.canEnd(0, 5));
        Check.due("7 stays", true, () -> x.canEnd(1, 7));
        Check.due("0 and 9 are looked for", false, () -> x.canEnd(1, 0) || x.canEnd(1, 9));
        Check.due("no word", NO_INDEX, () -> x.canEnd(2, 10));
        Check.due("no word below", NO_INDEX, () -> x.canEnd(-1, 0));
        Check.due("value above", BAD, () -> x.canEnd(0, 10));
        Check.due("value below", BAD, () -> x.canEnd(0, -1));
        Check.due("3 is kept in 1", true, () -> x.canKeep(0, 1, 3));
        Check.due("0 is not", false, () -> x.canKeep(0, 1, 0));
        Check.due("4 is kept in 2 of hand 1", true, () -> x.canKeep(1, 2, 4));
        Check.due("3 is not kept by hand 1", false, () -> x.canKeep(1, 1, 3));
        Check.due("0 is kept in 0", true, () -> x.canKeep(1, 0, 0));
        Check.due("no hand", NO_INDEX, () -> x.canKeep(2, 3, 10));
        Check.due("no hand below", NO_INDEX, () -> x.canKeep(-1, 0, 0));
        Check.due("register above", BAD, () -> x.canKeep(0, 3, 0));
        Check.due("register below", BAD, () -> x.canKeep(0, -1, 0));
        Check.due("kept value above", BAD, () -> x.canKeep(0, 0, 10));
        Check.due("kept value below", BAD, () -> x.canKeep(0, 0, -1));
        x.addStep(0, 'j', 0, 0, 0);
        Check.due("without ends", false, () -> x.canEnd(1, 7) || x.canKeep(1, 0, 0));
        Check.due("no end", 0, x::countEnds);
        Check.due("no outcome", 0, x::countOutcomes);
    }

    private static void outcomes() {
        Ticketdoor x = new Ticketdoor();
        x.addWord(0, false, 1);
        Check.withHands(x, "k 0 1; w 0 0; k 0 0", "k 0 2; w 0 0; k 0 0");
        Check.due("two ends", 2, x::countEnds);
        Check.due("alike in all registers", 1, x::countOutcomes);
        Check.due("all registers of all hands", 64, () -> Check.hands("z 0; z 1; z 2", "z 0; z 1; z 2").countOutcomes());
        Check.due("of three hands", 8, () -> Check.hands("z 2", "z 1", "z 0").countOutcomes());
    }

    private static void greatest() {
        Ticketdoor x = new Ticketdoor();
        x.addWord(8, false, 1);
        x.addWord(2, true, 9);
        Check.withHands(x, "f 0 0; j 0 0 0", "k 0 1; w 0 1");
        Check.due("on its way round", 9, () -> x.greatest(0));
        Check.due("its first value, whatever a read gives", 2, () -> x.greatest(1));
        Check.due("no word", NO_INDEX, () -> x.greatest(2));
        Check.due("no word below", NO_INDEX, () -> x.greatest(-1));
    }

    /** Each hand writes its own word and reads the other's: with buffers alone both can read the old value. */
    private static void storeBuffers() {
        Ticketdoor x = new Ticketdoor();
        x.addWord(0, false, 1);
        x.addWord(0, false, 1);
        Check.withHands(x, "k 0 1; w 0 0; r 1 1", "k 0 1; w 0 1; r 1 0");
        Check.due("without buffers", 3, x::countOutcomes);
        x.setBuffers(true);
        Check.due("with buffers", 4, x::countOutcomes);
        x.dropSteps(0);
        x.dropSteps(1);
        Check.steps(x, 0, "k 0 1; w 0 0; y; r 1 1");
        Check.steps(x, 1, "k 0 1; w 0 1; y; r 1 0");
        Check.due("with a wait for the buffer", 3, x::countOutcomes);
    }

    /** Each hand raises its flag and goes inside if the other's is not up: that holds without buffers alone. */
    private static void mutualExclusion() {
        Ticketdoor x = new Ticketdoor();
        x.addWord(0, false, 1);
        x.addWord(0, false, 1);
        Check.withHands(x, "k 0 1; w 0 0; r 1 1; = 1 2 5; h; i", "k 0 1; w 0 1; r 1 0; = 1 2 5; h; i");
        Check.due("one inside", 1, x::mostInside);
        Check.due("no row to two", NONE, () -> x.rowLength(2));
        x.setBuffers(true);
        Check.due("two inside", 2, x::mostInside);
    }

    private static Ticketdoor idle(int first, int second, int third) {
        Ticketdoor x = new Ticketdoor();
        for (int count : new int[] {first, second, third}) {
            int hand = x.addHand();
            for (int step = 0; step < count; step++) {
                x.addStep(hand, 'o', 0, 0, 0);
            }
        }
        x.addWord(0, false, 1);
        return x;
    }

    private static void justAThousand() {
        Ticketdoor x = idle(9, 9, 9);
        counts("just a thousand", x, 1000, 2700, 1);
        Check.due("mean", 2.7, x::meanMoves);
        for (int move = 0; move < 27; move++) {
            x.act(move / 9, 0);
        }
        Check.due("the last one", 999, x::getState);
        Check.due("sound", true, x::isSound);
        Check.due("undecided", 0, x::countUndecided);
        Check.due("nothing decided", false, () -> x.canDisagree() || x.canDecide(0));
        Check.due("nobody inside or trying", false, () -> x.mostInside() > 0 || x.canStarve(2));
        Check.due("one outcome", 1, x::countOutcomes);
        Check.due("one word at one end", true, () -> x.canEnd(0, 0) && x.canKeep(2, 2, 0) && x.greatest(0) == 0);
    }

    private static void overAThousand() {
        Ticketdoor x = idle(6, 10, 12);
        Check.due("countStates", TOO_MANY, x::countStates);
        Check.due("countMoves", TOO_MANY, x::countMoves);
        Check.due("countEnds", TOO_MANY, x::countEnds);
        Check.due("mostInside", TOO_MANY, x::mostInside);
        Check.due("rowLength", TOO_MANY, () -> x.rowLength(1));
        Check.due("rowLength, many", BAD, () -> x.rowLength(0));
        Check.due("rowAt", TOO_MANY, () -> x.rowAt(1, -1));
        Check.due("rowAt, many", BAD, () -> x.rowAt(4, 0));
        Check.due("canStarve", TOO_MANY, () -> x.canStarve(0));
        Check.due("canStarve, hand", NO_INDEX, () -> x.canStarve(3));
        Check.due("overtakes", TOO_MANY, () -> x.overtakes(0, 1));
        Check.due("overtakes, both the same", BAD, () -> x.overtakes(1, 1));
        Check.due("overtakes, hand", NO_INDEX, () -> x.overtakes(3, 3));
        Check.due("canEnd", TOO_MANY, () -> x.canEnd(0, 0));
        Check.due("canEnd, value", BAD, () -> x.canEnd(0, 10));
        Check.due("canEnd, word", NO_INDEX, () -> x.canEnd(1, 10));
        Check.due("canKeep", TOO_MANY, () -> x.canKeep(0, 0, 0));
        Check.due("canKeep, register", BAD, () -> x.canKeep(0, 3, 0));
        Check.due("canKeep, hand", NO_INDEX, () -> x.canKeep(3, 3, 0));
        Check.due("countOutcomes", TOO_MANY, x::countOutcomes);
        Check.due("greatest", TOO_MANY, () -> x.greatest(0));
        Check.due("greatest, word", NO_INDEX, () -> x.greatest(1));
        Check.due("canDecide", TOO_MANY, () -> x.canDecide(0));
        Check.due("canDecide, value", BAD, () -> x.canDecide(-1));
        Check.due("canDisagree", TOO_MANY, x::canDisagree);
        Check.due("countUndecided", TOO_MANY, x::countUndecided);
        Check.due("getState", TOO_MANY, x::getState);
        Check.due("insideShare", TOO_MANY, x::insideShare);
        Check.due("meanMoves", TOO_MANY, x::meanMoves);
        Check.due("movesAlone goes on", -1, () -> x.movesAlone(0));
        Check.due("act goes on", 1, () -> x.act(0, 0));
        Check.due("still sound", true, x::isSound);
        Check.due("still too many", TOO_MANY, x::countStates);
        x.dropSteps(2);
        Check.due("not too many any more", 77, x::countStates);
    }

    /** What many words have is taken for nothing that a hand has. */
    private static void allWordsAndHands(int first) {
        Ticketdoor x = new Ticketdoor();
        for (int word = 0; word < 6; word++) {
            x.addWord(first, true, 9);
        }
        Check.withHands(x, "k 0 9; w 0 5", "k 2 8", "");
        counts("six words, three hands", x, 8, 10, 1);
        Check.due("nobody inside", 0, x::mostInside);
        Check.due("nobody at all", 0.0f, x::insideShare);
        for (int value = 0; value < 10; value++) {
            int at = value;
            Check.due("decided " + value, false, () -> x.canDecide(at));
            Check.due("at an end, " + value, value == first, () -> x.canEnd(0, at) && x.canEnd(4, at));
            Check.due("in the last word, " + value, value == 9, () -> x.canEnd(5, at));
        }
        Check.due("nothing undecided", 0, x::countUndecided);
        Check.due("one outcome", 1, x::countOutcomes);
        Check.due("nobody waits", false, () -> x.canStarve(0) || x.canStarve(1) || x.canStarve(2));
    }

    private static void changesAreSeen() {
        Ticketdoor x = Check.hands("t; i");
        Check.due("one hand", 3, x::countStates);
        x.addHand();
        Check.due("one that has ended", 3, x::countStates);
        x.addStep(1, 't', 0, 0, 0);
        Check.due("two hands", 6, x::countStates);
        x.setDeath(1, 0);
        Check.due("one can die", 12, x::countStates);
        x.setDeath(1, -1);
        x.dropSteps(0);
        Check.due("one without steps", 2, x::countStates);
        x.addWord(3, false, 1);
        Check.due("a word", 3, () -> x.greatest(0));
    }
}
