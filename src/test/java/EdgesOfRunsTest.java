import java.util.NoSuchElementException;

/** Promises 24 to 36 at their edges. */
public final class EdgesOfRunsTest {
    private static final Class<?> INDEX = IndexOutOfBoundsException.class;
    private static final Class<?> BAD = IllegalArgumentException.class;
    private static final Class<?> CANNOT = UnsupportedOperationException.class;
    private static final Class<?> NONE = NoSuchElementException.class;
    private static final Class<?> MANY = ArithmeticException.class;

    public static void main(String[] args) {
        aloneWithinTwoHundred();
        aloneTillInside();
        aloneFromTheFirstState();
        aloneWithoutDying();
        aloneWithABuffer();
        aloneGivesTheLeast();
        startTellsItsMoves();
        beginsWithTheFirstState();
        movesAreCounted();
        endedBeforeChoice();
        choicesFromZero();
        flushTellsWhatIsLeft();
        dieTellsTheNextStep();
        handsThatAreThere();
        wordsThatAreThere();
        registersOfAllHands();
        decidedOrNothing();
        bufferedNoneToTwo();
        statesOfARun();
        fiveHundredCalls();
        Check.finish("EdgesOfRunsTest");
    }

    /** Two counters: the inner one makes 29 moves in each of six rounds, so that all are 193, and the idle ones. */
    private static Ticketdoor longWay(int idle) {
        return Check.withHands(Check.words(0, 4), "o; ".repeat(idle) + "k 1 9; f 0 0; = 0 1 " + (idle + 4)
                + "; j 0 0 " + (idle + 1) + "; f 0 1; = 0 1 " + (idle + 7) + "; j 0 0 " + (idle + 1) + "; i");
    }

    /** "that of going inside counted, -1 if it does not come there within 200": 199, 200 and 201 moves, and for ever. */
    private static void aloneWithinTwoHundred() {
        for (int idle = 0; idle <= 8; idle++) {
            int moves = 193 + idle;
            Ticketdoor x = longWay(idle);
            Check.due(moves + " moves", moves <= 200 ? moves : -1, () -> x.movesAlone(0));
            for (int move = 1; move <= moves; move++) {
                x.act(0, 0);
                Check.that("inside by move " + moves + " alone", x.isInside(0) == (move == moves));
            }
        }
        Check.due("for ever", -1, () -> Check.hands("j 0 0 0; i").movesAlone(0));
    }

    /** "till it is inside": by the first move, by the last step, and never. */
    private static void aloneTillInside() {
        Check.due("by the first move", 1, () -> Check.hands("i; o; i").movesAlone(0));
        Check.due("by the second", 2, () -> Check.hands("o; i").movesAlone(0));
        Check.due("by the sixteenth step", 16, () -> Check.hands("t; ".repeat(15) + "i").movesAlone(0));
        Check.due("ends before", -1, () -> Check.hands("h; i").movesAlone(0));
        Check.due("ends before, by a jump", -1, () -> Check.hands("j 0 0 2; i").movesAlone(0));
        Check.due("without steps", -1, () -> Check.hands("").movesAlone(0));
        Check.due("the other one alone goes inside", -1, () -> Check.hands("t", "i").movesAlone(0));
    }

    /** "a hand makes alone from the first state": whatever the run did. */
    private static void aloneFromTheFirstState() {
        Ticketdoor x = Check.withHands(Check.words(0), "k 1 1; s 1 0; = 1 0 4; j 0 0 1; i", "k 0 1; w 0 0");
        Check.due("before the run", 4, () -> x.movesAlone(0));
        Check.moves(x, "1 1 0 0");
        Check.due("the lock is taken in the run alone", 4, () -> x.movesAlone(0));
        Check.due("the run is as it was", 4, x::start);
        Check.moves(x, "0 0 0 0");
        Check.due("inside in the run", true, () -> x.isInside(0));
        Check.due("from the first state still", 4, () -> x.movesAlone(0));
    }

    /** "without dying". */
    private static void aloneWithoutDying() {
        Ticketdoor x = Check.hands("o; j 0 0 0; i", "o; h; i", "o; i");
        for (int number = 0; number < 3; number++) {
            x.setDeath(number, number == 2 ? 0 : 2);
        }
        Check.due("a death would lead inside", -1, () -> x.movesAlone(0));
        Check.due("it would before its end, too", -1, () -> x.movesAlone(1));
        Check.due("it would be longer", 2, () -> x.movesAlone(2));
        String[] waiting = {"w 0 0; y; o; i", "w 0 0; s 0 0; o; i", "w 0 0; n 0 0 0; o; i", "w 0 0; f 0 0; o; i"};
        for (String program : waiting) {
            Ticketdoor waits = Check.withHands(Check.words(0), program);
            waits.setBuffers(true);
            waits.setDeath(0, 3);
            Check.due("a death instead of its buffer's move would be shorter: " + program, 5, () -> waits.movesAlone(0));
        }
        Ticketdoor fills = Check.withHands(Check.words(0), "w 0 0; w 0 0; w 0 0; o; i");
        fills.setBuffers(true);
        fills.setDeath(0, 4);
        Check.due("a death instead of room would be shorter", 6, () -> fills.movesAlone(0));
    }

    /** "its buffer going on only if its step cannot be made": none, one, two and three writes. */
    private static void aloneWithABuffer() {
        int[] due = {1, 2, 3, 5, 7};
        int[] withWait = {2, 4, 6, 8, 10};
        for (int many = 0; many <= 4; many++) {
            String writes = "w 0 0; ".repeat(many);
            Ticketdoor x = Check.withHands(Check.words(0), writes + "i", writes + "y; i", writes);
            Check.due("without buffers", many + 1, () -> x.movesAlone(0));
            x.setBuffers(true);
            Check.due(many + " writes", due[many], () -> x.movesAlone(0));
            Check.due(many + " writes and a wait", withWait[many], () -> x.movesAlone(1));
            Check.due(many + " writes and an end", -1, () -> x.movesAlone(2));
        }
        Ticketdoor own = Check.withHands(Check.words(0), "k 0 1; w 0 0; r 1 0; = 0 1 5; h; i");
        own.setBuffers(true);
        Check.due("it reads what its own buffer has", 5, () -> own.movesAlone(0));
    }

    /** "tosses and reads giving the least"; a safe word takes two moves, and a read of it is whole. */
    private static void aloneGivesTheLeast() {
        Check.due("a toss gives 0", 3, () -> Check.hands("z 0; = 0 1 3; h; i").movesAlone(0));
        Check.due("not 1", -1, () -> Check.hands("k 1 1; z 0; = 0 1 4; h; i").movesAlone(0));
        Ticketdoor x = new Ticketdoor();
        x.addWord(9, true, 9);
        Check.withHands(x, "r 0 0; k 1 9; = 0 1 4; h; i", "w 0 0; r 1 0; = 0 1 4; h; i");
        Check.due("nobody else is writing", 4, () -> x.movesAlone(0));
        Check.due("its own write is over", 5, () -> x.movesAlone(1));
        x.setBuffers(true);
        Check.due("one move with buffers", 4, () -> x.movesAlone(1));
    }

    /** "Returns how many moves it had": none, one and many, of each kind. */
    private static void startTellsItsMoves() {
        Ticketdoor x = Check.withHands(Check.words(0), "w 0 0; j 0 0 1");
        x.setBuffers(true);
        x.setDeath(0, 0);
        Check.due("none", 0, x::start);
        Check.moves(x, "0");
        Check.due("a step", 1, x::start);
        Check.moves(x, "d0");
        Check.due("a death", 1, x::start);
        Check.moves(x, "0 b0");
        Check.due("a step and a buffer's", 2, x::start);
        Check.due("none again", 0, x::start);
        for (int move = 0; move < 300; move++) {
            x.act(0, 0);
        }
        Check.due("three hundred", 300, x::start);
    }

    /** "A run begins with the first state". */
    private static void beginsWithTheFirstState() {
        Ticketdoor x = Check.withHands(Check.words(5, 6), "k 0 1; w 0 0; w 0 1; t; d 0; i; t; o", "k 2 3; w 2 1; o");
        x.setBuffers(true);
        x.setDeath(0, 3);
        x.setDeath(1, 0);
        long first = x.checksum();
        String asked = Answers.asked(x);
        Check.moves(x, "0 0 0 b0 0 0 0 0 1 1 d1");
        Check.that("another state", x.getState() != 0 && x.checksum() != first);
        Check.due("eleven moves", 11, x::start);
        Check.due("the first state", 0, x::getState);
        Check.due("its sum", first, x::checksum);
        Check.due("all as at first", asked, () -> Answers.asked(x));
        Check.due("who died can die", 0, () -> x.die(1));
        Check.due("and the other one", 3, () -> x.die(0));
    }

    /** "Returns how many moves the run has": each kind of move is one. */
    private static void movesAreCounted() {
        Ticketdoor x = Check.withHands(Check.words(0), "w 0 0; w 0 0; o; o", "z 0; o");
        x.setBuffers(true);
        x.setDeath(1, 1);
        Check.due("one", 1, () -> x.act(0, 0));
        Check.due("two, of the other one", 2, () -> x.act(1, 1));
        Check.moves(x, "b0 d1");
        Check.due("a buffer's and a death between", 5, () -> x.act(0, 0));
        Check.due("a refused one is none", NONE, () -> x.act(0, 1));
        Check.due("nor is one without a hand", INDEX, () -> x.act(2, 0));
        Check.due("six", 6, () -> x.act(0, 0));
        Ticketdoor safe = new Ticketdoor();
        safe.addWord(0, true, 1);
        Check.withHands(safe, "w 0 0");
        Check.due("the first one of a safe write", 1, () -> safe.act(0, 0));
        Check.due("the second one", 2, () -> safe.act(0, 0));
    }

    /** "if it has ended, or the step cannot be made" goes ahead of "if there is no such choice". */
    private static void endedBeforeChoice() {
        Ticketdoor x = Check.withHands(Check.words(0), "w 0 0; f 0 0", "o", "");
        x.setBuffers(true);
        Check.moves(x, "0");
        for (int choice : new int[] {Integer.MIN_VALUE, -1, 0, 1, Integer.MAX_VALUE}) {
            Check.due("waits", CANNOT, () -> x.act(0, choice));
            Check.due("is there", choice == 0 ? 2 : NONE, () -> x.act(1, choice));
            Check.due("without steps", CANNOT, () -> x.act(2, choice));
            Check.due("no hand", INDEX, () -> x.act(3, choice));
            Check.due("no hand below", INDEX, () -> x.act(-1, choice));
            x.start();
            Check.moves(x, "0");
        }
        Check.moves(x, "1");
        Check.due("has ended", CANNOT, () -> x.act(1, 0));
        Check.due("has ended, any choice", CANNOT, () -> x.act(1, 7));
    }

    /** "which of what can come of it, from 0": one of each step, two of a toss. */
    private static void choicesFromZero() {
        String[] steps = {"r 0 0", "w 0 0", "k 0 1", "+ 0 1", "m 0 1", "= 0 1 0", "< 0 1 0", "j 0 0 0", "s 0 0", "n 0 0 0",
            "f 0 0", "y", "t", "i", "o", "d 0", "z 0", "h"};
        for (String step : steps) {
            int many = step.charAt(0) == 'z' ? 2 : 1;
            for (int number = -1; number <= 3; number++) {
                int choice = number;
                Check.due(step + " choice " + choice, choice < 0 || choice >= many ? NONE : 1,
                        () -> Check.withHands(Check.words(7), step).act(0, choice));
            }
        }
    }

    /** "Returns how many are left in it", "if it is empty". */
    private static void flushTellsWhatIsLeft() {
        Ticketdoor x = Check.withHands(Check.words(0, 0), "w 0 0; w 0 1", "w 0 0", "");
        Check.due("without buffers", NONE, () -> x.flush(0));
        x.setBuffers(true);
        Check.due("nothing yet", NONE, () -> x.flush(0));
        Check.moves(x, "0");
        Check.due("none is left of one", 0, () -> x.flush(0));
        Check.due("empty", NONE, () -> x.flush(0));
        x.start();
        Check.moves(x, "0 0 1");
        Check.due("one is left of two", 1, () -> x.flush(0));
        Check.due("then none", 0, () -> x.flush(0));
        Check.due("empty again", NONE, () -> x.flush(0));
        Check.due("the other one's", 0, () -> x.flush(1));
        Check.due("a hand without steps", NONE, () -> x.flush(2));
        Check.due("six moves", 6, x::start);
        Ticketdoor two = Check.withHands(Check.words(0), "", "w 0 0; w 0 0", "w 0 0; w 0 0");
        two.setBuffers(true);
        Check.moves(two, "1 1 2");
        Check.due("one is left of the second hand's", 1, () -> two.flush(1));
        Check.due("none is left of the third one's", 0, () -> two.flush(2));
    }

    /** "Returns its next step." */
    private static void dieTellsTheNextStep() {
        Ticketdoor x = Check.hands("o; o", "o; o; o", "o");
        int[] steps = {0, 2, 16};
        for (int number = 0; number < 3; number++) {
            int hand = number;
            x.setDeath(hand, steps[hand]);
            Check.due("hand " + hand, steps[hand], () -> x.die(hand));
            Check.due("hand " + hand + " goes on with it", steps[hand], () -> x.getNext(hand));
            Check.due("hand " + hand + " once", CANNOT, () -> x.die(hand));
        }
    }

    /** "if there is no such hand": none, one, two and three hands, at the last one and behind it. */
    private static void handsThatAreThere() {
        for (int count = 0; count <= 3; count++) {
            Ticketdoor x = Check.words(0);
            for (int hand = 0; hand < count; hand++) {
                Check.withHands(x, "d 0; o");
            }
            for (int hand = 0; hand < count; hand++) {
                x.act(hand, 0);
            }
            for (int hand : new int[] {Integer.MIN_VALUE, -1, 0, 1, 2, 3, 4, Integer.MAX_VALUE}) {
                boolean is = hand >= 0 && hand < count;
                String what = "hand " + hand + " of " + count;
                Check.due(what + " getNext", is ? 1 : INDEX, () -> x.getNext(hand));
                Check.due(what + " getRegister", is ? 0 : INDEX, () -> x.getRegister(hand, 2));
                Check.due(what + " isInside", is ? false : INDEX, () -> x.isInside(hand));
                Check.due(what + " isTrying", is ? false : INDEX, () -> x.isTrying(hand));
                Check.due(what + " getDecided", is ? 0 : INDEX, () -> x.getDecided(hand));
                Check.due(what + " countBuffered", is ? 0 : INDEX, () -> x.countBuffered(hand));
                Check.due(what + " countSteps", is ? 2 : INDEX, () -> x.countSteps(hand));
                Check.due(what + " movesAlone", is ? -1 : INDEX, () -> x.movesAlone(hand));
                Check.due(what + " flush", is ? NONE : INDEX, () -> x.flush(hand));
                Check.due(what + " die", is ? CANNOT : INDEX, () -> x.die(hand));
                Check.due(what + " act", is ? NONE : INDEX, () -> x.act(hand, 1));
                Check.due(what + " canStarve", is ? false : INDEX, () -> x.canStarve(hand));
                Check.due(what + " canKeep", is ? true : INDEX, () -> x.canKeep(hand, 2, 0));
            }
        }
    }

    /** "if there is no such word": none to six words, at the last one and behind it. */
    private static void wordsThatAreThere() {
        int[] all = {9, 0, 8, 1, 7, 2};
        for (int count = 0; count <= 6; count++) {
            Ticketdoor x = Check.words(java.util.Arrays.copyOf(all, count));
            for (int word : new int[] {Integer.MIN_VALUE, -1, 0, 1, 2, 3, 4, 5, 6, 7, Integer.MAX_VALUE}) {
                boolean is = word >= 0 && word < count;
                String what = "word " + word + " of " + count;
                Check.due(what + " getWord", is ? (Object) all[word] : INDEX, () -> x.getWord(word));
                Check.due(what + " greatest", is ? (Object) all[word] : INDEX, () -> x.greatest(word));
                Check.due(what + " canEnd", is ? (Object) (all[word] == 9) : INDEX, () -> x.canEnd(word, 9));
            }
        }
    }

    /** "`register`: 0 to 2", each hand having its own. */
    private static void registersOfAllHands() {
        Ticketdoor x = Check.hands("k 0 1; k 1 2; k 2 3", "k 0 4; k 1 5; k 2 6", "k 0 7; k 1 8; k 2 9");
        Check.moves(x, "0 0 0 1 1 1 2 2 2");
        for (int hand = 0; hand < 3; hand++) {
            for (int register : new int[] {Integer.MIN_VALUE, -1, 0, 1, 2, 3, Integer.MAX_VALUE}) {
                int at = hand;
                boolean is = register >= 0 && register <= 2;
                Check.due("register " + register + " of " + hand, is ? (Object) (3 * hand + register + 1) : BAD,
                        () -> x.getRegister(at, register));
            }
        }
        Check.due("no hand before the register", INDEX, () -> x.getRegister(3, 3));
    }

    /** "if it decided nothing": a 0 is something. */
    private static void decidedOrNothing() {
        Ticketdoor x = Check.hands("d 0", "k 1 9; d 1", "d 2");
        for (int hand = 0; hand < 3; hand++) {
            int at = hand;
            Check.due("nothing by " + hand, NONE, () -> x.getDecided(at));
        }
        Check.moves(x, "0 1");
        Check.due("0", 0, () -> x.getDecided(0));
        Check.due("not yet", NONE, () -> x.getDecided(1));
        Check.moves(x, "1");
        Check.due("9", 9, () -> x.getDecided(1));
        Check.due("the third one nothing", NONE, () -> x.getDecided(2));
        x.start();
        Check.due("nothing anew", NONE, () -> x.getDecided(0));
    }

    /** "Returns how many things are in a buffer." */
    private static void bufferedNoneToTwo() {
        Ticketdoor x = Check.withHands(Check.words(0), "w 0 0; w 0 0; w 0 0", "w 0 0");
        Check.moves(x, "0 0 0");
        Check.due("none without buffers", 0, () -> x.countBuffered(0));
        x.setBuffers(true);
        int[] due = {0, 1, 2, 1, 2, 1, 0};
        String[] moves = {"", "0", "0", "b0", "0", "b0", "b0"};
        for (int index = 0; index < due.length; index++) {
            Check.moves(x, moves[index]);
            Check.due("behind move " + index, due[index], () -> x.countBuffered(0));
            Check.due("none of the other one", 0, () -> x.countBuffered(1));
        }
    }

    /** "Returns the number of the state", the first one being 0, and those with too many states beside it. */
    private static void statesOfARun() {
        Ticketdoor x = Check.hands("z 0; t; i");
        int[][] due = {{0, 1, 3, 5}, {0, 2, 4, 6}};
        for (int choice = 0; choice < 2; choice++) {
            x.start();
            for (int move = 0; move < 4; move++) {
                int number = due[choice][move];
                Check.due("state behind " + move, number, x::getState);
                if (move < 3) {
                    x.act(0, move == 0 ? choice : 0);
                }
            }
        }
        Check.due("seven states", 7, x::countStates);
        Ticketdoor many = Check.hands("o; ".repeat(9), "o; ".repeat(9), "o; ".repeat(9));
        Check.due("the first of a thousand", 0, many::getState);
        Check.moves(many, "0 1 2 ".repeat(9));
        Check.due("the last of a thousand", 999, many::getState);
        Check.steps(many, 0, "o");
        Check.due("more than a thousand, also at the first", MANY, many::getState);
    }

    /** "An object is used for at most 512 calls after it has been made": the last one is as good as the first. */
    private static void fiveHundredCalls() {
        Ticketdoor x = new Ticketdoor();
        x.addHand();
        x.addStep(0, 'j', 0, 0, 0);
        for (int call = 3; call <= 511; call++) {
            int due = call - 2;
            Check.due("call " + call, due, () -> x.act(0, 0));
        }
        Check.due("call 512", 509, x::start);
        Ticketdoor y = new Ticketdoor();
        y.addHand();
        y.addStep(0, 'j', 0, 0, 0);
        for (int call = 3; call <= 511; call += 2) {
            y.act(0, 0);
            Check.due("behind " + call + " calls", true, y::isSound);
        }
    }
}
