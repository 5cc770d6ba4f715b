import java.util.NoSuchElementException;

/** Promises 9 to 14 and 17 to 20 at their edges. */
public final class EdgesOfStatesTest {
    private static final Class<?> INDEX = IndexOutOfBoundsException.class;
    private static final Class<?> BAD = IllegalArgumentException.class;
    private static final Class<?> MANY = ArithmeticException.class;
    private static final Class<?> NONE = NoSuchElementException.class;
    private static final String FOUR_TOSSES = "z 0; z 1; z 2; z 0";

    public static void main(String[] args) {
        atMostAThousand();
        eachCallAtAThousand();
        eachCallAboveAThousand();
        waysThroughAThousand();
        movesOfAThousand();
        outOfTheCrowdAndBack();
        nothingOfOldEnds();
        countsWithoutHands();
        likeMovesEach();
        numberedAsFound();
        stepBufferDeath();
        toldByAllParts();
        endsWithoutMoves();
        insideNoneToThree();
        rowsToEachMany();
        rowsToTheLowest();
        rowsOfAllLengths();
        wordsOfEnds();
        registersOfEnds();
        unlikeOutcomes();
        greatestOfAllStates();
        Check.finish("EdgesOfStatesTest");
    }

    private static String idle(int steps) {
        return "o; ".repeat(steps);
    }

    /** As many states as the product of these, the hands looking at nothing but themselves. */
    private static Ticketdoor product(int first, int second, int third) {
        return Check.withHands(Check.words(5), idle(first - 1), idle(second - 1), idle(third - 1));
    }

    /** "There are at most 1000": one, 999, 1000 and 1001, in unlike ways. */
    private static void atMostAThousand() {
        Check.due("a single one", 1, () -> product(1, 1, 1).countStates());
        Check.due("990", 990, () -> product(9, 10, 11).countStates());
        String with27 = "z 0; " + idle(12);
        String with37 = "z 0; o; z 1; " + idle(7);
        Check.due("27", 27, () -> Check.hands(with27).countStates());
        Check.due("37", 37, () -> Check.hands(with37).countStates());
        Check.due("999", 999, () -> Check.hands(with27, with37).countStates());
        Check.due("999, the other way", 999, () -> Check.hands(with37, "", with27).countStates());
        Check.due("1000", 1000, () -> product(10, 10, 10).countStates());
        String with25 = "z 0; " + idle(11);
        Check.due("25", 25, () -> Check.hands(with25).countStates());
        Check.due("1000 with tosses", 1000, () -> Check.hands(idle(4), with25, idle(7)).countStates());
        Check.due("1001", MANY, () -> product(7, 11, 13).countStates());
        Check.due("1001, the other way", MANY, () -> product(13, 7, 11).countStates());
        Check.due("1008", MANY, () -> product(7, 9, 16).countStates());
        Check.due("4913", MANY, () -> product(17, 17, 17).countStates());
        String with91 = "z 0; z 1; " + idle(5) + "z 2; " + idle(7);
        Check.due("91", 91, () -> Check.hands(with91).countStates());
        Check.due("1001 with tosses", MANY, () -> Check.hands(idle(10), with91).countStates());
        Check.due("910", 910, () -> Check.hands(idle(9), with91).countStates());
    }

    /** What "there are more than 1000 states" refuses is answered with just 1000. */
    private static void eachCallAtAThousand() {
        Ticketdoor x = product(10, 10, 10);
        Check.due("countStates", 1000, x::countStates);
        Check.due("countMoves", 2700, x::countMoves);
        Check.due("countEnds", 1, x::countEnds);
        Check.due("mostInside", 0, x::mostInside);
        Check.due("rowLength", NONE, () -> x.rowLength(1));
        Check.due("rowAt", NONE, () -> x.rowAt(1, 0));
        Check.due("canStarve", false, () -> x.canStarve(0));
        Check.due("overtakes", 0, () -> x.overtakes(0, 1));
        Check.due("canEnd", true, () -> x.canEnd(0, 5));
        Check.due("canKeep", true, () -> x.canKeep(2, 2, 0));
        Check.due("countOutcomes", 1, x::countOutcomes);
        Check.due("greatest", 5, () -> x.greatest(0));
        Check.due("canDecide", false, () -> x.canDecide(0));
        Check.due("canDisagree", false, x::canDisagree);
        Check.due("countUndecided", 0, x::countUndecided);
        Check.due("getState", 0, x::getState);
        Check.due("insideShare", 0.0f, x::insideShare);
        Check.due("meanMoves", 2.7, x::meanMoves);
        Check.due("isSound", true, x::isSound);
    }

    private static void eachCallAboveAThousand() {
        Ticketdoor x = product(7, 11, 13);
        Check.due("countMoves", MANY, x::countMoves);
        Check.due("countEnds", MANY, x::countEnds);
        Check.due("mostInside", MANY, x::mostInside);
        Check.due("rowLength", MANY, () -> x.rowLength(3));
        Check.due("rowAt", MANY, () -> x.rowAt(3, 0));
        Check.due("canStarve", MANY, () -> x.canStarve(2));
        Check.due("overtakes", MANY, () -> x.overtakes(2, 0));
        Check.due("canEnd", MANY, () -> x.canEnd(0, 5));
        Check.due("canKeep", MANY, () -> x.canKeep(2, 2, 0));
        Check.due("countOutcomes", MANY, x::countOutcomes);
        Check.due("greatest", MANY, () -> x.greatest(0));
        Check.due("canDecide", MANY, () -> x.canDecide(9));
        Check.due("canDisagree", MANY, x::canDisagree);
        Check.due("countUndecided", MANY, x::countUndecided);
        Check.due("getState", MANY, x::getState);
        Check.due("insideShare", MANY, x::insideShare);
        Check.due("meanMoves", MANY, x::meanMoves);
        Check.due("countStates", MANY, x::countStates);
        Check.due("isSound needs them not", true, x::isSound);
        Check.due("movesAlone", -1, () -> x.movesAlone(0));
        Check.due("act", 1, () -> x.act(2, 0));
    }

    /** What leads through the last states as well as through the first ones. */
    private static void waysThroughAThousand() {
        Ticketdoor decided = Check.hands(idle(8) + "d 0", "k 1 9; " + idle(7) + "d 1", idle(9));
        Check.due("a thousand", 1000, decided::countStates);
        Check.due("all undecided, as there is one end", 1000, decided::countUndecided);
        Ticketdoor entered = Check.hands(idle(8) + "i", "t; " + idle(8), idle(9));
        Check.due("overtaken by the last move", 1, () -> entered.overtakes(0, 1));
        Check.due("inside in a tenth of all", 100.0f / 1000.0f, entered::insideShare);
        Ticketdoor never = Check.hands(idle(8) + "i", "t; " + idle(7) + "h", idle(8) + "h");
        Check.due("no waits for ever in ways that end", false,
                () -> never.canStarve(0) || never.canStarve(1) || never.canStarve(2));
        Ticketdoor ever = Check.hands(idle(9), "t; " + idle(7) + "j 0 0 8", idle(9));
        Check.due("900", 900, ever::countStates);
        Check.due("waits in the last state alone", true, () -> ever.canStarve(1));
    }

    /** Up to ten reads of each of two hands in as many as 400 states: some thousands of moves are not too many. */
    private static void movesOfAThousand() {
        Ticketdoor x = new Ticketdoor();
        x.addWord(0, true, 9);
        Check.withHands(x, "w 0 0", "r 0 0; j 0 0 0", "r 0 0; j 0 0 0");
        Check.due("4 before, 400 while it is written, 400 behind it", 4 + 400 + 400, x::countStates);
        int whileWritten = 400 + 2 * (200 * 10 + 200);
        Check.due("moves", 4 + 2 * 4 + whileWritten + 2 * 400, x::countMoves);
        Check.due("no end", 0, x::countEnds);
    }

    /** Ends that were found before, with more states, are none any more. */
    private static void nothingOfOldEnds() {
        Ticketdoor x = Check.withHands(Check.words(3), idle(6));
        Check.due("the word of the old end", true, () -> x.canEnd(0, 3));
        x.dropSteps(0);
        Check.steps(x, 0, "k 0 9; z 1; k 1 0; w 0 0");
        Check.due("six states", 6, x::countStates);
        Check.due("six moves", 6, x::countMoves);
        Check.due("the word of the new end", true, () -> x.canEnd(0, 9));
        Check.due("not of the old one", false, () -> x.canEnd(0, 3));
        Ticketdoor y = Check.hands(idle(5));
        Check.due("the register of the old end", true, () -> y.canKeep(0, 0, 0));
        y.dropSteps(0);
        Check.steps(y, 0, "k 0 9; z 1; k 1 0");
        Check.due("five states", 5, y::countStates);
        Check.due("the register of the new end", true, () -> y.canKeep(0, 0, 9));
        Check.due("not of the old one", false, () -> y.canKeep(0, 0, 0));
        Check.due("no state beside the one", false, () -> Check.words(1, 2).canEnd(1, 0));
    }

    /** The same object, with more and with less: what is found is found anew. */
    private static void outOfTheCrowdAndBack() {
        Ticketdoor x = product(10, 10, 10);
        Check.due("a thousand", 1000, x::countStates);
        Check.steps(x, 0, "o");
        Check.due("a hundred more", MANY, x::countStates);
        x.dropSteps(0);
        Check.due("a hundred", 100, x::countStates);
        Check.steps(x, 0, idle(9));
        Check.due("a thousand again", 1000, x::countStates);
        x.setDeath(1, 16);
        Check.due("deaths", MANY, x::countStates);
        x.setDeath(1, -1);
        Check.due("no deaths", 1000, x::countStates);
        x.dropSteps(1);
        x.dropSteps(2);
        Check.steps(x, 1, "t; i; o");
        Check.due("forty", 40, x::countStates);
        Check.due("all answers as of a new one", Answers.asked(Check.withHands(Check.words(5), idle(9), "t; i; o", "")),
                () -> Answers.asked(x));
    }

    private static void countsWithoutHands() {
        for (Ticketdoor x : new Ticketdoor[] {new Ticketdoor(), Check.words(1, 2, 3), Check.hands("", "", "")}) {
            Check.due("one state", 1, x::countStates);
            Check.due("no moves", 0, x::countMoves);
            Check.due("which is an end", 1, x::countEnds);
            Check.due("nobody inside", 0, x::mostInside);
            Check.due("no row", NONE, () -> x.rowLength(1));
            Check.due("one outcome", 1, x::countOutcomes);
            Check.due("the first state", 0, x::getState);
            Check.due("mean", 0.0, x::meanMoves);
            Check.due("share", 0.0f, x::insideShare);
        }
        Check.due("a word of the one end", true, () -> Check.words(1, 2).canEnd(1, 2));
        Check.due("no other value of it", false, () -> Check.words(1, 2).canEnd(1, 1));
        Check.due("a register of the one end", true, () -> Check.hands("", "").canKeep(1, 2, 0));
        Check.due("no other value of it", false, () -> Check.hands("", "").canKeep(1, 2, 1));
    }

    /** "Returns how many, those to like states each." */
    private static void likeMovesEach() {
        Check.due("one to itself", 1, () -> Check.hands("j 0 0 0").countMoves());
        Check.due("two to itself", 2, () -> Check.hands("j 0 0 0", "j 0 0 0").countMoves());
        Check.due("three to itself", 3, () -> Check.hands("j 0 0 0", "j 0 0 0", "j 0 0 0").countMoves());
        Check.due("of one state", 1, () -> Check.hands("j 0 0 0", "j 0 0 0", "j 0 0 0").countStates());
        Ticketdoor x = new Ticketdoor();
        x.addWord(0, true, 9);
        Check.withHands(x, "w 0 0", "r 0 0");
        // 1 + 1 before, 10 reads while it is written, and the second moves: of 12 states that are written to the end
        Check.due("ten reads", 1 + 1 + 1 + 10 + 1 + 11 - 1 + 1, x::countMoves);
        Check.due("states", 4 + 2 + 2 * 9, x::countStates);
    }

    /** "from each, by rising numbers, by its moves in order": by hands, by values, then the buffer's, then the death. */
    private static void numberedAsFound() {
        Ticketdoor x = Check.withHands(Check.words(0), "d 0; w 0 0; z 0", "o");
        x.setBuffers(true);
        x.setDeath(0, 16);
        String[] moves = {"", "0", "d0", "1", "0 0", "0 d0", "0 1", "d0 1", "0 0 0", "0 0 0:1", "0 0 b0", "0 0 1"};
        for (int number = 0; number < moves.length; number++) {
            int due = number;
            x.start();
            Check.moves(x, moves[number]);
            Check.due("state by " + moves[number], due, x::getState);
        }
        String[] others = {"1 0", "0 d0", "0 0 d0", "1 d0"};
        int[] numbers = {6, 5, 5, 7};
        for (int index = 0; index < others.length; index++) {
            int due = numbers[index];
            x.start();
            Check.moves(x, others[index]);
            Check.due("the same state by " + others[index], due, x::getState);
        }
        Ticketdoor torn = new Ticketdoor();
        torn.addWord(7, true, 3);
        Check.withHands(torn, "r 0 0", "w 0 0");
        Check.due("five before the reads, by hands", 2, () -> Check.moves(torn, "1").getState());
        for (int value = 0; value <= 3; value++) {
            int due = 4 + value;
            torn.start();
            Check.moves(torn, "1 0:" + value);
            Check.due("a read of " + value, due, torn::getState);
        }
        torn.start();
        Check.due("written to its end", 8, () -> Check.moves(torn, "1 1").getState());
    }

    /** "of a hand by its step, by what comes of that, ..., then that of its buffer, then its death". */
    private static void stepBufferDeath() {
        Ticketdoor x = Check.withHands(Check.words(5), "w 0 0; d 0; z 1");
        x.setBuffers(true);
        x.setDeath(0, 16);
        String[] moves = {"", "0", "d0", "0 0", "0 b0", "0 0 0:0", "0 0 0:1", "0 0 b0", "0 0 d0"};
        for (int number = 0; number < moves.length; number++) {
            int due = number;
            x.start();
            Check.moves(x, moves[number]);
            Check.due("state by " + moves[number], due, x::getState);
        }
        Ticketdoor two = Check.withHands(Check.words(5), "", "w 0 0; d 0; z 1", "k 0 1; o");
        two.setBuffers(true);
        two.setDeath(1, 16);
        String[] ways = {"", "1", "d1", "2", "1 1", "1 b1", "1 2", "2 d1", "2 2", "1 1 1:0", "1 1 1:1", "1 1 b1", "1 1 d1", "1 1 2"};
        for (int number = 0; number < ways.length; number++) {
            int due = number;
            two.start();
            Check.moves(two, ways[number]);
            Check.due("state of two by " + ways[number], due, two::getState);
        }
    }

    /** Two ways to states that are alike but for one part: "values, next steps, registers, who is writing, ...". */
    private static void toldByAllParts() {
        Ticketdoor word = Check.withHands(Check.words(0), "z 0; w 0 0; k 0 0");
        Check.due("the word's value", 1 + 2 + 2 + 2, word::countStates);
        word.setBuffers(true);
        Check.due("what is buffered", 1 + 2 + 4 + 4, word::countStates);
        Ticketdoor order = Check.withHands(Check.words(0, 0), "z 0; = 0 1 5; w 1 1; w 1 0; j 0 0 8; w 1 0; w 1 1; j 0 0 8; k 0 0");
        order.setBuffers(true);
        Check.moves(order, "0:0 0 0 0 0 0");
        int first = order.getState();
        order.start();
        Check.moves(order, "0:1 0 0 0 0 0");
        Check.that("both by the same steps", order.getNext(0) == 9 && order.countBuffered(0) == 2);
        Check.that("the order of what is buffered", order.getState() != first);
        Ticketdoor dead = Check.hands("o; o");
        dead.setDeath(0, 0);
        Check.due("dead once", 3 + 3, dead::countStates);
        Ticketdoor writing = new Ticketdoor();
        writing.addWord(0, true, 1);
        Check.due("who is writing", 9, () -> Check.withHands(writing, "w 0 0", "w 0 0").countStates());
        Ticketdoor decided = Check.hands("d 0; j 0 0 0");
        Check.due("nothing decided, and 0", 1 + 2, decided::countStates);
        Check.due("the next step, also behind the last one", 1 + 17, () -> {
            int states = 1;
            for (int step = 0; step <= 16; step++) {
                states += Check.hands("j 0 0 " + step).countStates() - 1 + (step == 0 ? 1 : 0);
            }
            return states;
        });
    }

    /** "An end is a state without moves": none, one and many; not while a buffer has something. */
    private static void endsWithoutMoves() {
        Check.due("none", 0, () -> Check.hands("j 0 0 0", "o").countEnds());
        Check.due("one", 1, () -> Check.hands("o", "o").countEnds());
        Check.due("two", 2, () -> Check.hands("z 0", "o").countEnds());
        Check.due("64", 64, () -> Check.hands("z 0; z 1; z 2", "z 0; z 1; z 2").countEnds());
        Ticketdoor x = Check.withHands(Check.words(0), "w 0 0");
        x.setBuffers(true);
        Check.due("once its buffer is empty", 1, x::countEnds);
        for (int hand = 0; hand < 3; hand++) {
            String[] programs = {"", "", ""};
            programs[hand] = "k 0 7; w 0 0";
            Ticketdoor each = Check.withHands(Check.words(2), programs);
            each.setBuffers(true);
            Check.due("hand " + hand + " writes: states", 4, each::countStates);
            Check.due("hand " + hand + " writes: moves", 3, each::countMoves);
            Check.due("hand " + hand + " writes: ends", 1, each::countEnds);
            Check.due("hand " + hand + " wrote", true, () -> each.canEnd(0, 7) && !each.canEnd(0, 2));
        }
        Ticketdoor dies = Check.hands("j 0 0 0");
        dies.setDeath(0, 1);
        Check.due("by its death alone", 1, dies::countEnds);
    }

    private static void insideNoneToThree() {
        String[] programs = {"i; o", "t; o", "i"};
        Check.due("none", 0, () -> Check.hands("t; o", "o", "h; i").mostInside());
        Check.due("one", 1, () -> Check.hands("t", programs[0], "t").mostInside());
        Check.due("two", 2, () -> Check.hands(programs).mostInside());
        Check.due("three", 3, () -> Check.hands("i", "i", "i").mostInside());
        for (int value = 0; value < 10; value++) {
            Ticketdoor full = Check.withHands(Check.words(value, value, value, value, value, value), "i", "t", "o");
            Check.due("one, with words of " + value, 1, full::mostInside);
            Check.due("half of all", 0.5f, full::insideShare);
        }
        Check.due("one of three at a time", 1, () -> Check.withHands(Check.words(1),
                "s 0 0; < 0 1 3; j 0 0 3; o", "k 1 1; s 0 0; = 0 1 4; h; i; o; w 1 0",
                "k 1 1; s 0 0; = 0 1 4; h; i; o; w 1 0").mostInside());
    }

    /** "`many`: 1 to 3", "in which just so many hands are inside". */
    private static void rowsToEachMany() {
        for (int hands = 0; hands <= 3; hands++) {
            String[] programs = new String[hands];
            java.util.Arrays.fill(programs, "i; o");
            Ticketdoor x = Check.hands(programs);
            for (int many : new int[] {Integer.MIN_VALUE, -1, 0, 1, 2, 3, 4, Integer.MAX_VALUE}) {
                String what = many + " of " + hands;
                Object due = many < 1 || many > 3 ? BAD : many > hands ? NONE : (Object) many;
                Check.due("rowLength " + what, due, () -> x.rowLength(many));
                Object mover = due == (Object) BAD || due == (Object) NONE ? due : (Object) (many - 1);
                Check.due("rowAt " + what, mover, () -> x.rowAt(many, many - 1));
                Check.due("rowAt behind the last " + what, due == (Object) BAD ? BAD : NONE, () -> x.rowAt(many, many));
            }
        }
    }

    /** "of the row to the lowest of those states to which the fewest moves lead". */
    private static void rowsToTheLowest() {
        Check.due("hand 0 of two that are alike", 0, () -> Check.hands("i", "i").rowAt(1, 0));
        Check.due("hand 1, which needs fewer", 1, () -> Check.hands("o; i", "i").rowAt(1, 0));
        Check.due("hand 2, which needs fewer", 2, () -> Check.hands("o; i", "o; i", "i").rowAt(1, 0));
        Ticketdoor two = Check.hands("o; i", "i", "i");
        Check.due("two inside by the shortest", 2, () -> two.rowLength(2));
        Check.due("hand 1 first", 1, () -> two.rowAt(2, 0));
        Check.due("then hand 2", 2, () -> two.rowAt(2, 1));
        Ticketdoor toss = Check.hands("z 0; = 0 1 3; i; o; i");
        Check.due("the toss of 0 leads there", 3, () -> toss.rowLength(1));
        Ticketdoor death = Check.hands("j 0 0 0; i");
        death.setDeath(0, 1);
        Check.due("a death is a move of the row", 2, () -> death.rowLength(1));
        Check.due("of its hand", 0, () -> death.rowAt(1, 0));
        Ticketdoor buffer = Check.withHands(Check.words(0), "w 0 0; y; i", "o");
        buffer.setBuffers(true);
        Check.due("a buffer's move, too", 4, () -> buffer.rowLength(1));
    }

    /** "`index`: of the move, from 0", "if there is no such state, or move": the first, the last and those beside. */
    private static void rowsOfAllLengths() {
        for (int length = 1; length <= 16; length++) {
            Ticketdoor x = Check.hands("o", idle(length - 1) + "i");
            int due = length;
            Check.due("row of " + length, due, () -> x.rowLength(1));
            Check.due("its first move", 1, () -> x.rowAt(1, 0));
            Check.due("its last move", 1, () -> x.rowAt(1, due - 1));
            Check.due("behind it", NONE, () -> x.rowAt(1, due));
            Check.due("far behind it", NONE, () -> x.rowAt(1, 99));
            Check.due("as far as can be", NONE, () -> x.rowAt(1, Integer.MAX_VALUE));
            Check.due("ahead of it", NONE, () -> x.rowAt(1, -1));
            Check.due("far ahead of it", NONE, () -> x.rowAt(1, Integer.MIN_VALUE));
        }
        Ticketdoor x = Check.hands(idle(9) + "i", idle(9) + "i", "i");
        Check.due("a long one", 21, () -> {
            x.dropSteps(0);
            x.dropSteps(1);
            Check.steps(x, 0, idle(7) + "i");
            Check.steps(x, 1, idle(11) + "i");
            return x.rowLength(3);
        });
        for (int index = 0; index < 21; index++) {
            int at = index;
            Check.due("move " + index, index < 8 ? 0 : index < 20 ? 1 : 2, () -> x.rowAt(3, at));
        }
        Check.due("no move 21", NONE, () -> x.rowAt(3, 21));
    }

    /** "Tells whether a word has a value in some end": each value, and not in another state, nor of another word. */
    private static void wordsOfEnds() {
        for (int number = 0; number < 10; number++) {
            int last = number;
            Ticketdoor x = Check.withHands(Check.words(3, 4, 5, 6, 7, 8), "k 0 " + (9 - last) + "; w 0 5; k 0 " + last + "; w 0 5");
            for (int value = 0; value < 10; value++) {
                int at = value;
                Check.due("the last word's " + value, value == last, () -> x.canEnd(5, at));
                Check.due("the first word's " + value, value == 3, () -> x.canEnd(0, at));
            }
        }
        Ticketdoor none = Check.withHands(Check.words(1), "j 0 0 0");
        Check.due("without an end", false, () -> none.canEnd(0, 1));
        Check.due("without a word", INDEX, () -> Check.hands("o").canEnd(0, 0));
        Check.due("below 0", BAD, () -> none.canEnd(0, -1));
        Check.due("above 9", BAD, () -> none.canEnd(0, 10));
    }

    /** "Tells whether a register of a hand has a value in some end." */
    private static void registersOfEnds() {
        Ticketdoor x = Check.hands("k 0 1; k 1 2; k 2 3", "k 0 4; k 1 5; k 2 6", "k 0 7; k 1 8; k 2 9");
        for (int index = 0; index < 9; index++) {
            int hand = index / 3;
            int register = index % 3;
            for (int value = 0; value < 10; value++) {
                int at = value;
                Check.due("register " + register + " of " + hand + " is " + value, value == index + 1,
                        () -> x.canKeep(hand, register, at));
            }
        }
        Check.due("register below", BAD, () -> x.canKeep(2, -1, 0));
        Check.due("register above", BAD, () -> x.canKeep(2, 3, 0));
        Check.due("value below", BAD, () -> x.canKeep(2, 2, -1));
        Check.due("value above", BAD, () -> x.canKeep(2, 2, 10));
        Check.due("no hand 3", INDEX, () -> x.canKeep(3, 0, 0));
        Check.due("without an end", false, () -> Check.hands("k 0 5; j 0 0 1").canKeep(0, 0, 5));
    }

    /** "Counts outcomes": ends that are alike in all registers are one, and each register counts. */
    private static void unlikeOutcomes() {
        Check.due("none", 0, () -> Check.hands("j 0 0 0").countOutcomes());
        Check.due("one of two ends", 1, () -> {
            Ticketdoor x = Check.hands("z 0; d 0; k 0 0");
            Check.due("two ends", 2, x::countEnds);
            return x.countOutcomes();
        });
        for (int hand = 0; hand < 3; hand++) {
            for (int register = 0; register < 3; register++) {
                String[] programs = {"k 0 9", "k 1 9", "k 2 9"};
                programs[hand] = "z " + register;
                Check.due("register " + register + " of " + hand, 2, () -> Check.hands(programs).countOutcomes());
            }
        }
        Check.due("many", 64, () -> Check.hands("z 0; z 1; z 2", "", "z 0; z 1; z 2").countOutcomes());
        Ticketdoor torn = new Ticketdoor();
        torn.addWord(0, true, 9);
        Check.withHands(torn, "r 0 0", "w 0 0", "r 2 0");
        Check.due("each value of each of two", 100, torn::countOutcomes);
        torn.dropSteps(0);
        torn.dropSteps(2);
        Check.steps(torn, 2, "r 2 0; r 0 0");
        Check.due("each value of each of one", 100, torn::countOutcomes);
        Check.due("8 in one register", 2, () -> Check.hands("z 0; = 0 1 4; k 2 8; h; k 0 0").countOutcomes());
        Check.due("as many as registers tell", 8, () -> Check.hands(FOUR_TOSSES).countOutcomes());
        for (int hand = 0; hand < 3; hand++) {
            for (int register = 0; register < 9; register++) {
                String[] programs = {"r " + register / 3 + " 0", "r " + register % 3 + " 0", "w 0 0"};
                java.util.Collections.rotate(java.util.Arrays.asList(programs), hand);
                Ticketdoor pair = new Ticketdoor();
                pair.addWord(0, true, 9);
                Check.due("each value of two registers " + register, 100, () -> Check.withHands(pair, programs).countOutcomes());
            }
        }
        outcomesOfRegistersAlone();
    }

    /** "rows of the registers of all hands": not of marks, next steps, words or what was decided. */
    private static void outcomesOfRegistersAlone() {
        String[] unlike = {"i", "t", "d 0", "j 0 0 9", "f 2 0", "f 2 1", "f 2 2", "f 2 3", "f 2 4", "f 2 5"};
        for (String step : unlike) {
            for (int hand = 0; hand < 3; hand++) {
                String[] programs = {"", "", ""};
                programs[hand] = "z 0; = 0 1 4; k 0 0; " + step + "; h";
                Ticketdoor x = Check.withHands(Check.words(0, 0, 0, 0, 0, 0), programs);
                Check.due("two ends with or without " + step, 2, x::countEnds);
                Check.due("one outcome with or without " + step, 1, x::countOutcomes);
            }
        }
    }

    /** "Returns the greatest value that a word has in some state": at first, between, and in no buffer. */
    private static void greatestOfAllStates() {
        for (int number = 0; number < 10; number++) {
            int value = number;
            Check.due("at first", value, () -> Check.words(value).greatest(0));
            Ticketdoor x = Check.withHands(Check.words(0, 0), "k 0 " + value + "; w 0 1; k 0 0; w 0 1");
            Check.due("between", value, () -> x.greatest(1));
            Check.due("another word", 0, () -> x.greatest(0));
        }
        Check.due("round by 9", 9, () -> Check.withHands(Check.words(9), "f 0 0; h").greatest(0));
        Ticketdoor dies = Check.withHands(Check.words(2), "k 0 8; w 0 0; y; j 0 0 3");
        dies.setBuffers(true);
        Check.due("once it went to it", 8, () -> dies.greatest(0));
        Ticketdoor torn = new Ticketdoor();
        torn.addWord(1, true, 9);
        Check.due("what a read gives is no value of it", 1, () -> Check.withHands(torn, "w 1 0; h", "r 0 0").greatest(0));
    }
}
