import java.util.NoSuchElementException;

/**
 * "A method that throws an exception changes nothing. If several exceptions apply, the one that is documented first is
 * thrown.": each exception of each method, alone and together with each that is documented behind it.
 */
public final class RefusalTest {
    private static final Class<?> INDEX = IndexOutOfBoundsException.class;
    private static final Class<?> ARGUMENT = IllegalArgumentException.class;
    private static final Class<?> STATE = IllegalStateException.class;
    private static final Class<?> MANY = ArithmeticException.class;
    private static final Class<?> NONE = NoSuchElementException.class;
    private static final Class<?> CANNOT = UnsupportedOperationException.class;
    private static final int LOW = Integer.MIN_VALUE;
    private static final int HIGH = Integer.MAX_VALUE;

    private interface Maker {
        Ticketdoor make();
    }

    private interface Use {
        Object on(Ticketdoor x);
    }

    public static void main(String[] args) {
        words();
        hands();
        steps();
        settings();
        rows();
        waits();
        ends();
        agreement();
        tooManyStates();
        acts();
        flushesAndDeaths();
        looks();
        calls();
        orders();
        Check.finish("RefusalTest");
    }

    /** Refused before anything was asked, and once all was asked: the object is as its twin, and as it was. */
    private static void refused(String what, Class<?> due, Maker maker, Use use) {
        Ticketdoor unasked = maker.make();
        Check.due(what, due, () -> use.on(unasked));
        Check.due(what + ", like its twin", Answers.shown(maker.make()), () -> Answers.shown(unasked));
        Ticketdoor asked = maker.make();
        String before = Answers.asked(asked);
        Check.due(what + ", asked before", due, () -> use.on(asked));
        Check.due(what + ", as before", before, () -> Answers.asked(asked));
        Check.due(what + ", like its twin behind it", Answers.shown(maker.make()), () -> Answers.shown(asked));
    }

    private static Ticketdoor empty() {
        return new Ticketdoor();
    }

    /** Two words, two hands in the midst of a run, hand 0 writing its safe word, and three calls. */
    private static Ticketdoor busy() {
        Ticketdoor x = new Ticketdoor();
        x.addWord(5, true, 3);
        x.addWord(7, false, 1);
        Check.withHands(x, "t; k 0 1; w 0 0; i; d 0; o", "r 0 0; d 0; f 1 1; o");
        x.setDeath(0, 1);
        withCalls(x, "w1 0 5", "r1 2 4", "e3 0 9");
        return Check.moves(x, "0 0 0 1:2 1");
    }

    /** Hand 1 may read 0 to 3, while hand 0 writes. */
    private static Ticketdoor torn() {
        Ticketdoor x = new Ticketdoor();
        x.addWord(5, true, 3);
        return Check.moves(Check.withHands(x, "w 0 0", "r 0 0; d 0"), "0");
    }

    /** Buffers with two and with one thing, and a hand that died once. */
    private static Ticketdoor buffered() {
        Ticketdoor x = Check.withHands(Check.words(1, 2), "k 0 4; w 0 0; w 0 1; w 0 0; s 0 0; z 1", "w 0 1; y; i; t", "");
        x.setBuffers(true);
        x.setDeath(1, 0);
        x.setDeath(2, 3);
        return Check.moves(x, "1 d1 0 0 0 1");
    }

    /** As many words, hands, steps and calls as there can be, and no order of the calls. */
    private static Ticketdoor full() {
        Ticketdoor x = Check.withHands(Check.words(0, 1, 2, 3, 4, 9), "t; i; o; h; " + "o; ".repeat(11) + "o", "f 1 5; h", "k 0 3");
        withCalls(x, "w1 0 1", "r2 2 3", "e3 0 9", "d3 0 9", "d3 0 9", "w2 5 9");
        return Check.moves(x, "0 0 1");
    }

    /** More than 1000 states, hand 0 inside, hand 1 at its end, and no call. */
    private static Ticketdoor crowded() {
        Ticketdoor x = Check.withHands(Check.words(3), "i; " + "o; ".repeat(8) + "d 0", "z 0; " + "o; ".repeat(9) + "o", "t; j 0 0 0");
        x.setDeath(0, 0);
        return Check.moves(x, "0 1:1 2 1 1 1 1 1 1 1 1 1 1");
    }

    private static void withCalls(Ticketdoor x, String... told) {
        for (String call : told) {
            String[] parts = call.split(" ");
            x.addCall(call.charAt(0), parts[0].charAt(1) - '0', Integer.parseInt(parts[1]), Integer.parseInt(parts[2]));
        }
    }

    private static void words() {
        for (int value : new int[] {-1, 10, LOW, HIGH}) {
            refused("addWord value " + value, ARGUMENT, RefusalTest::busy, x -> x.addWord(value, false, 1));
            refused("addWord value " + value + ", safe", ARGUMENT, RefusalTest::empty, x -> x.addWord(value, true, 9));
            refused("addWord value " + value + " before 6 words", ARGUMENT, RefusalTest::full,
                    x -> x.addWord(value, true, 9));
        }
        for (int most : new int[] {-1, 0, 10, LOW, HIGH}) {
            refused("addWord most " + most, ARGUMENT, RefusalTest::busy, x -> x.addWord(0, true, most));
            refused("addWord most " + most + ", whole", ARGUMENT, RefusalTest::empty, x -> x.addWord(9, false, most));
            refused("addWord most " + most + " before 6 words", ARGUMENT, RefusalTest::full,
                    x -> x.addWord(9, false, most));
        }
        refused("addWord with 6", STATE, RefusalTest::full, x -> x.addWord(9, false, 9));
    }

    private static void hands() {
        refused("addHand with 3", STATE, RefusalTest::full, Ticketdoor::addHand);
        refused("addHand with 3, crowded", STATE, RefusalTest::crowded, Ticketdoor::addHand);
        for (int hand : new int[] {-1, 2, LOW, HIGH}) {
            refused("dropSteps " + hand, INDEX, RefusalTest::busy, x -> x.dropSteps(hand));
            refused("countSteps " + hand, INDEX, RefusalTest::busy, x -> x.countSteps(hand));
        }
        refused("dropSteps 3", INDEX, RefusalTest::full, x -> x.dropSteps(3));
        refused("countSteps 3", INDEX, RefusalTest::full, x -> x.countSteps(3));
        refused("dropSteps of none", INDEX, RefusalTest::empty, x -> x.dropSteps(0));
        refused("countSteps of none", INDEX, RefusalTest::empty, x -> x.countSteps(0));
    }

    private static void steps() {
        for (int hand : new int[] {-1, 2, LOW, HIGH}) {
            refused("addStep hand " + hand, INDEX, RefusalTest::busy, x -> x.addStep(hand, 't', 0, 0, 0));
            refused("addStep hand " + hand + " before its kind", INDEX, RefusalTest::busy,
                    x -> x.addStep(hand, '?', 0, 0, 0));
            refused("addStep hand " + hand + " before its numbers", INDEX, RefusalTest::busy,
                    x -> x.addStep(hand, 'r', 3, 6, 17));
        }
        refused("addStep hand 3", INDEX, RefusalTest::full, x -> x.addStep(3, 't', 0, 0, 0));
        refused("addStep kind", ARGUMENT, RefusalTest::busy, x -> x.addStep(1, 'T', 0, 0, 0));
        refused("addStep register", ARGUMENT, RefusalTest::busy, x -> x.addStep(1, 'd', 3, 0, 0));
        refused("addStep word", ARGUMENT, RefusalTest::busy, x -> x.addStep(1, 'r', 0, 2, 0));
        refused("addStep step", ARGUMENT, RefusalTest::busy, x -> x.addStep(1, 'j', 0, 0, 17));
        refused("addStep number", ARGUMENT, RefusalTest::busy, x -> x.addStep(1, 'k', 0, 10, 0));
        refused("addStep nothing", ARGUMENT, RefusalTest::busy, x -> x.addStep(1, 't', 0, 0, 1));
        refused("addStep kind before 16 steps", ARGUMENT, RefusalTest::full, x -> x.addStep(0, 'x', 0, 0, 0));
        refused("addStep register before 16 steps", ARGUMENT, RefusalTest::full, x -> x.addStep(0, 'z', -1, 0, 0));
        refused("addStep word before 16 steps", ARGUMENT, RefusalTest::full, x -> x.addStep(0, 'w', 0, 6, 0));
        refused("addStep step before 16 steps", ARGUMENT, RefusalTest::full, x -> x.addStep(0, '=', 0, 0, -1));
        refused("addStep number before 16 steps", ARGUMENT, RefusalTest::full, x -> x.addStep(0, 'k', 0, -1, 0));
        refused("addStep nothing before 16 steps", ARGUMENT, RefusalTest::full, x -> x.addStep(0, 'h', 1, 0, 0));
        refused("addStep with 16", STATE, RefusalTest::full, x -> x.addStep(0, 't', 0, 0, 0));
        refused("addStep with 16, of another kind", STATE, RefusalTest::full, x -> x.addStep(0, 'n', 2, 5, 2));
    }

    private static void settings() {
        for (int hand : new int[] {-1, 2, LOW, HIGH}) {
            refused("setDeath hand " + hand, INDEX, RefusalTest::busy, x -> x.setDeath(hand, 0));
            refused("setDeath hand " + hand + " before its step", INDEX, RefusalTest::busy, x -> x.setDeath(hand, 17));
        }
        refused("setDeath hand 3", INDEX, RefusalTest::full, x -> x.setDeath(3, -2));
        for (int step : new int[] {-2, 17, LOW, HIGH}) {
            refused("setDeath step " + step, ARGUMENT, RefusalTest::busy, x -> x.setDeath(0, step));
            refused("setDeath step " + step + ", buffered", ARGUMENT, RefusalTest::buffered, x -> x.setDeath(2, step));
        }
    }

    private static void rows() {
        for (int many : new int[] {-1, 0, 4, LOW, HIGH}) {
            refused("rowLength " + many, ARGUMENT, RefusalTest::busy, x -> x.rowLength(many));
            refused("rowAt " + many, ARGUMENT, RefusalTest::busy, x -> x.rowAt(many, 0));
            refused("rowLength " + many + " before too many states", ARGUMENT, RefusalTest::crowded, x -> x.rowLength(many));
            refused("rowAt " + many + " before too many states", ARGUMENT, RefusalTest::crowded, x -> x.rowAt(many, 0));
            refused("rowAt " + many + " before no move", ARGUMENT, RefusalTest::busy, x -> x.rowAt(many, 99));
        }
        for (int many = 1; many <= 3; many++) {
            int inside = many;
            refused("rowLength of too many states", MANY, RefusalTest::crowded, x -> x.rowLength(inside));
            refused("rowAt of too many states", MANY, RefusalTest::crowded, x -> x.rowAt(inside, 0));
            refused("rowAt of too many states before no move", MANY, RefusalTest::crowded, x -> x.rowAt(inside, 999));
        }
        for (int many = 2; many <= 3; many++) {
            int inside = many;
            refused("rowLength of no such state", NONE, RefusalTest::busy, x -> x.rowLength(inside));
            refused("rowAt of no such state", NONE, RefusalTest::busy, x -> x.rowAt(inside, 0));
        }
        refused("rowAt behind the last move", NONE, RefusalTest::busy, x -> x.rowAt(1, x.rowLength(1)));
        refused("rowAt ahead of the first move", NONE, RefusalTest::busy, x -> x.rowAt(1, -1));
    }

    private static void waits() {
        for (int hand : new int[] {-1, 2, LOW, HIGH}) {
            refused("canStarve " + hand, INDEX, RefusalTest::busy, x -> x.canStarve(hand));
            refused("overtakes " + hand, INDEX, RefusalTest::busy, x -> x.overtakes(hand, 0));
            refused("overtakes other " + hand, INDEX, RefusalTest::busy, x -> x.overtakes(0, hand));
            refused("overtakes both " + hand + " before both the same", INDEX, RefusalTest::busy,
                    x -> x.overtakes(hand, hand));
        }
        refused("canStarve 3 before too many states", INDEX, RefusalTest::crowded, x -> x.canStarve(3));
        refused("overtakes 3 before too many states", INDEX, RefusalTest::crowded, x -> x.overtakes(3, 0));
        refused("overtakes other 3 before too many states", INDEX, RefusalTest::crowded, x -> x.overtakes(0, 3));
        refused("overtakes both 3 before all", INDEX, RefusalTest::crowded, x -> x.overtakes(3, 3));
        for (int number = 0; number < 2; number++) {
            int hand = number;
            refused("overtakes the same", ARGUMENT, RefusalTest::busy, x -> x.overtakes(hand, hand));
            refused("overtakes the same before too many states", ARGUMENT, RefusalTest::crowded, x -> x.overtakes(hand, hand));
        }
        refused("canStarve of too many states", MANY, RefusalTest::crowded, x -> x.canStarve(2));
        refused("overtakes of too many states", MANY, RefusalTest::crowded, x -> x.overtakes(0, 2));
    }

    private static void ends() {
        for (int number : new int[] {-1, 2, LOW, HIGH}) {
            refused("canEnd word " + number, INDEX, RefusalTest::busy, x -> x.canEnd(number, 0));
            refused("canEnd word " + number + " before its value", INDEX, RefusalTest::busy, x -> x.canEnd(number, 10));
            refused("canKeep hand " + number, INDEX, RefusalTest::busy, x -> x.canKeep(number, 0, 0));
            refused("canKeep hand " + number + " before its register", INDEX, RefusalTest::busy,
                    x -> x.canKeep(number, 3, 0));
            refused("canKeep hand " + number + " before its value", INDEX, RefusalTest::busy,
                    x -> x.canKeep(number, 0, 10));
            refused("greatest word " + number, INDEX, RefusalTest::busy, x -> x.greatest(number));
        }
        for (int value : new int[] {-1, 10, LOW, HIGH}) {
            refused("canEnd value " + value, ARGUMENT, RefusalTest::busy, x -> x.canEnd(1, value));
            refused("canKeep value " + value, ARGUMENT, RefusalTest::busy, x -> x.canKeep(1, 2, value));
            refused("canEnd value " + value + " before too many", ARGUMENT, RefusalTest::crowded, x -> x.canEnd(0, value));
            refused("canKeep value " + value + " before too many", ARGUMENT, RefusalTest::crowded,
                    x -> x.canKeep(0, 0, value));
        }
        for (int register : new int[] {-1, 3, LOW, HIGH}) {
            refused("canKeep register " + register, ARGUMENT, RefusalTest::busy, x -> x.canKeep(1, register, 9));
            refused("canKeep register " + register + " before too many", ARGUMENT, RefusalTest::crowded,
                    x -> x.canKeep(0, register, 0));
        }
        refused("canEnd word 1 before too many states", INDEX, RefusalTest::crowded, x -> x.canEnd(1, 0));
        refused("canKeep hand 3 before too many states", INDEX, RefusalTest::crowded, x -> x.canKeep(3, 0, 0));
        refused("greatest word 1 before too many states", INDEX, RefusalTest::crowded, x -> x.greatest(1));
    }

    private static void agreement() {
        for (int value : new int[] {-1, 10, LOW, HIGH}) {
            refused("canDecide " + value, ARGUMENT, RefusalTest::busy, x -> x.canDecide(value));
            refused("canDecide " + value + " before too many states", ARGUMENT, RefusalTest::crowded, x -> x.canDecide(value));
        }
    }

    private static void tooManyStates() {
        refused("countStates", MANY, RefusalTest::crowded, Ticketdoor::countStates);
        refused("countMoves", MANY, RefusalTest::crowded, Ticketdoor::countMoves);
        refused("countEnds", MANY, RefusalTest::crowded, Ticketdoor::countEnds);
        refused("mostInside", MANY, RefusalTest::crowded, Ticketdoor::mostInside);
        refused("canEnd", MANY, RefusalTest::crowded, x -> x.canEnd(0, 9));
        refused("canKeep", MANY, RefusalTest::crowded, x -> x.canKeep(2, 2, 9));
        refused("countOutcomes", MANY, RefusalTest::crowded, Ticketdoor::countOutcomes);
        refused("greatest", MANY, RefusalTest::crowded, x -> x.greatest(0));
        refused("canDecide", MANY, RefusalTest::crowded, x -> x.canDecide(0));
        refused("canDisagree", MANY, RefusalTest::crowded, Ticketdoor::canDisagree);
        refused("countUndecided", MANY, RefusalTest::crowded, Ticketdoor::countUndecided);
        refused("getState", MANY, RefusalTest::crowded, Ticketdoor::getState);
        refused("insideShare", MANY, RefusalTest::crowded, Ticketdoor::insideShare);
        refused("meanMoves", MANY, RefusalTest::crowded, Ticketdoor::meanMoves);
    }

    private static void acts() {
        for (int hand : new int[] {-1, 2, LOW, HIGH}) {
            refused("movesAlone " + hand, INDEX, RefusalTest::busy, x -> x.movesAlone(hand));
            refused("act " + hand, INDEX, RefusalTest::busy, x -> x.act(hand, 0));
            refused("act " + hand + " before its choice", INDEX, RefusalTest::busy, x -> x.act(hand, -1));
        }
        refused("movesAlone 3, crowded", INDEX, RefusalTest::crowded, x -> x.movesAlone(3));
        refused("act 3, crowded", INDEX, RefusalTest::crowded, x -> x.act(3, 0));
        refused("act of one that has ended", CANNOT, RefusalTest::crowded, x -> x.act(1, 0));
        refused("act of one without steps", CANNOT, RefusalTest::buffered, x -> x.act(2, 0));
        refused("act without room", CANNOT, RefusalTest::buffered, x -> x.act(0, 0));
        refused("act that waits for its buffer", CANNOT, RefusalTest::buffered, x -> x.act(1, 0));
        for (int choice : new int[] {-1, 1, LOW, HIGH}) {
            refused("act has ended, before choice " + choice, CANNOT, RefusalTest::crowded, x -> x.act(1, choice));
            refused("act without room, before choice " + choice, CANNOT, RefusalTest::buffered, x -> x.act(0, choice));
            refused("act waits, before choice " + choice, CANNOT, RefusalTest::buffered, x -> x.act(1, choice));
            refused("act choice " + choice + " of a write", NONE, RefusalTest::busy, x -> x.act(0, choice));
            refused("act choice " + choice + " of 'f'", NONE, RefusalTest::busy, x -> x.act(1, choice));
            refused("act choice " + choice + " of a jump", NONE, RefusalTest::crowded, x -> x.act(2, choice));
        }
        refused("act choice 2 of a toss", NONE, () -> Check.hands("z 0; d 0"), x -> x.act(0, 2));
        refused("act choice 4 of a read while it is written", NONE, RefusalTest::torn, x -> x.act(1, 4));
        refused("act choice -1 of a read while it is written", NONE, RefusalTest::torn, x -> x.act(1, -1));
    }

    private static void flushesAndDeaths() {
        for (int hand : new int[] {-1, 2, LOW, HIGH}) {
            refused("flush " + hand, INDEX, RefusalTest::busy, x -> x.flush(hand));
            refused("die " + hand, INDEX, RefusalTest::busy, x -> x.die(hand));
        }
        refused("flush 3", INDEX, RefusalTest::buffered, x -> x.flush(3));
        refused("die 3", INDEX, RefusalTest::buffered, x -> x.die(3));
        refused("flush without buffers", NONE, RefusalTest::busy, x -> x.flush(0));
        refused("flush of an empty one", NONE, RefusalTest::buffered, x -> x.flush(2));
        refused("die is not told", CANNOT, RefusalTest::busy, x -> x.die(1));
        refused("die is not told, buffered", CANNOT, RefusalTest::buffered, x -> x.die(0));
        refused("die twice", CANNOT, RefusalTest::buffered, x -> x.die(1));
        refused("die behind the end", CANNOT, RefusalTest::buffered, x -> x.die(2));
    }

    private static void looks() {
        for (int number : new int[] {-1, 2, LOW, HIGH}) {
            refused("getNext " + number, INDEX, RefusalTest::busy, x -> x.getNext(number));
            refused("getRegister " + number, INDEX, RefusalTest::busy, x -> x.getRegister(number, 0));
            refused("getRegister " + number + " before its register", INDEX, RefusalTest::busy,
                    x -> x.getRegister(number, 3));
            refused("getWord " + number, INDEX, RefusalTest::busy, x -> x.getWord(number));
            refused("isInside " + number, INDEX, RefusalTest::busy, x -> x.isInside(number));
            refused("isTrying " + number, INDEX, RefusalTest::busy, x -> x.isTrying(number));
            refused("getDecided " + number, INDEX, RefusalTest::busy, x -> x.getDecided(number));
            refused("countBuffered " + number, INDEX, RefusalTest::busy, x -> x.countBuffered(number));
        }
        for (int register : new int[] {-1, 3, LOW, HIGH}) {
            refused("getRegister register " + register, ARGUMENT, RefusalTest::busy, x -> x.getRegister(1, register));
        }
        refused("getDecided of nothing", NONE, RefusalTest::busy, x -> x.getDecided(0));
    }

    private static void calls() {
        for (Maker maker : new Maker[] {RefusalTest::busy, RefusalTest::full}) {
            String where = maker.make().countOrders() == 0 ? " before 6 calls" : "";
            for (char kind : new char[] {'x', 'W', 'i', 0, (char) ('r' + 256), Character.MAX_VALUE}) {
                refused("addCall kind " + (int) kind + where, ARGUMENT, maker, x -> x.addCall(kind, 0, 0, 1));
            }
            for (int value : new int[] {-1, 10, LOW, HIGH}) {
                refused("addCall value " + value + where, ARGUMENT, maker, x -> x.addCall('w', value, 0, 1));
            }
            for (int begin : new int[] {-1, 1000, LOW, HIGH}) {
                refused("addCall begin " + begin + where, ARGUMENT, maker, x -> x.addCall('r', 0, begin, 999));
            }
            for (int end : new int[] {-1, 0, 500, 1000, LOW, HIGH}) {
                refused("addCall end " + end + where, ARGUMENT, maker, x -> x.addCall('e', 0, 500, end));
            }
        }
        for (char kind : new char[] {'w', 'r', 'e', 'd'}) {
            refused("addCall with 6, " + kind, STATE, RefusalTest::full, x -> x.addCall(kind, 9, 998, 999));
        }
    }

    private static void orders() {
        for (int index : new int[] {-1, 3, LOW, HIGH}) {
            refused("orderAt " + index, NONE, RefusalTest::busy, x -> x.orderAt(index));
        }
        for (int index : new int[] {-1, 0, 5, 6, LOW, HIGH}) {
            refused("orderAt " + index + " without an order", NONE, RefusalTest::full, x -> x.orderAt(index));
            refused("orderAt " + index + " without calls", NONE, RefusalTest::empty, x -> x.orderAt(index));
        }
    }
}
