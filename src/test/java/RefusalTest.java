import java.util.NoSuchElementException;

/**
 * "A method that throws an exception changes nothing. If several exceptions apply, the one that is documented first is
 * thrown.": each exception of each method, alone and together with each that is documented behind it.
 */
public final class RefusalTest {
    private static final Class<?> INDEX = IndexOutOfBoundsException.class;
    private static final Class<?> ARGUMENT = IllegalArgumentException.class;
    private static final Class<?> STATE = IllegalStateException.class;
    private static final Class<?> MANY = ArithmeticException.class;
    private static final Class<?> NONE = NoSuchElementException.class;
    private static final Class<?> CANNOT = UnsupportedOperationException.class;
    private static final int LOW = Integer.MIN_VALUE;
    private static final int HIGH = Integer.MAX_VALUE;

    private interface Use {
        Object on(Ticketdoor x);
    }

    public static void main(String[] args) {
        words();
        hands();
        steps();
        settings();
        rows();
        waits();
        ends();
        agreement();
        tooManyStates();
        acts();
        flushesAndDeaths();
        looks();
        calls();
        orders();
        Check.finish("RefusalTest");
    }

    /** Refused before anything was asked, and once all was asked: the object is as its twin, and as it was. */
    private static void refused(String what, Class<?> due, Samples.Maker maker, Use use) {
        Ticketdoor unasked = maker.make();
        Check.due(what, due, () -> use.on(unasked));
        Check.due(what + ", like its twin", Answers.shown(maker.make()), () -> Answers.shown(unasked));
        Ticketdoor asked = maker.make();
        String before = Answers.asked(asked);
        Check.due(what + ", asked before", due, () -> use.on(asked));
        Check.due(what + ", as before", before, () -> Answers.asked(asked));
        Check.due(what + ", like its twin behind it", Answers.shown(maker.make()), () -> Answers.shown(asked));
    }

    private static void words() {
        for (int value : new int[] {-1, 10, LOW, HIGH}) {
            refused("addWord value " + value, ARGUMENT, Samples::busy, x -> x.addWord(value, false, 1));
            refused("addWord value " + value + ", safe", ARGUMENT, Samples::empty, x -> x.addWord(value, true, 9));
            refused("addWord value " + value + " before 6 words", ARGUMENT, Samples::full,
                    x -> x.addWord(value, true, 9));
        }
        for (int most : new int[] {-1, 0, 10, LOW, HIGH}) {
            refused("addWord most " + most, ARGUMENT, Samples::busy, x -> x.addWord(0, true, most));
            refused("addWord most " + most + ", whole", ARGUMENT, Samples::empty, x -> x.addWord(9, false, most));
            refused("addWord most " + most + " before 6 words", ARGUMENT, Samples::full,
                    x -> x.addWord(9, false, most));
        }
        refused("addWord with 6", STATE, Samples::full, x -> x.addWord(9, false, 9));
    }

    private static void hands() {
        refused("addHand with 3", STATE, Samples::full, Ticketdoor::addHand);
        refused("addHand with 3, crowded", STATE, Samples::crowded, Ticketdoor::addHand);
        for (int hand : new int[] {-1, 2, LOW, HIGH}) {
            refused("dropSteps " + hand, INDEX, Samples::busy, x -> x.dropSteps(hand));
            refused("countSteps " + hand, INDEX, Samples::busy, x -> x.countSteps(hand));
        }
        refused("dropSteps 3", INDEX, Samples::full, x -> x.dropSteps(3));
        refused("countSteps 3", INDEX, Samples::full, x -> x.countSteps(3));
        refused("dropSteps of none", INDEX, Samples::empty, x -> x.dropSteps(0));
        refused("countSteps of none", INDEX, Samples::empty, x -> x.countSteps(0));
    }

    private static void steps() {
        for (int hand : new int[] {-1, 2, LOW, HIGH}) {
            refused("addStep hand " + hand, INDEX, Samples::busy, x -> x.addStep(hand, 't', 0, 0, 0));
            refused("addStep hand " + hand + " before its kind", INDEX, Samples::busy,
                    x -> x.addStep(hand, '?', 0, 0, 0));
            refused("addStep hand " + hand + " before its numbers", INDEX, Samples::busy,
                    x -> x.addStep(hand, 'r', 3, 6, 17));
        }
        refused("addStep hand 3", INDEX, Samples::full, x -> x.addStep(3, 't', 0, 0, 0));
        refused("addStep kind", ARGUMENT, Samples::busy, x -> x.addStep(1, 'T', 0, 0, 0));
        refused("addStep register", ARGUMENT, Samples::busy, x -> x.addStep(1, 'd', 3, 0, 0));
        refused("addStep word", ARGUMENT, Samples::busy, x -> x.addStep(1, 'r', 0, 2, 0));
        refused("addStep step", ARGUMENT, Samples::busy, x -> x.addStep(1, 'j', 0, 0, 17));
        refused("addStep number", ARGUMENT, Samples::busy, x -> x.addStep(1, 'k', 0, 10, 0));
        refused("addStep nothing", ARGUMENT, Samples::busy, x -> x.addStep(1, 't', 0, 0, 1));
        refused("addStep kind before 16 steps", ARGUMENT, Samples::full, x -> x.addStep(0, 'x', 0, 0, 0));
        refused("addStep register before 16 steps", ARGUMENT, Samples::full, x -> x.addStep(0, 'z', -1, 0, 0));
        refused("addStep word before 16 steps", ARGUMENT, Samples::full, x -> x.addStep(0, 'w', 0, 6, 0));
        refused("addStep step before 16 steps", ARGUMENT, Samples::full, x -> x.addStep(0, '=', 0, 0, -1));
        refused("addStep number before 16 steps", ARGUMENT, Samples::full, x -> x.addStep(0, 'k', 0, -1, 0));
        refused("addStep nothing before 16 steps", ARGUMENT, Samples::full, x -> x.addStep(0, 'h', 1, 0, 0));
        refused("addStep with 16", STATE, Samples::full, x -> x.addStep(0, 't', 0, 0, 0));
        refused("addStep with 16, of another kind", STATE, Samples::full, x -> x.addStep(0, 'n', 2, 5, 2));
    }

    private static void settings() {
        for (int hand : new int[] {-1, 2, LOW, HIGH}) {
            refused("setDeath hand " + hand, INDEX, Samples::busy, x -> x.setDeath(hand, 0));
            refused("setDeath hand " + hand + " before its step", INDEX, Samples::busy, x -> x.setDeath(hand, 17));
        }
        refused("setDeath hand 3", INDEX, Samples::full, x -> x.setDeath(3, -2));
        for (int step : new int[] {-2, 17, LOW, HIGH}) {
            refused("setDeath step " + step, ARGUMENT, Samples::busy, x -> x.setDeath(0, step));
            refused("setDeath step " + step + ", buffered", ARGUMENT, Samples::buffered, x -> x.setDeath(2, step));
        }
    }

    private static void rows() {
        for (int many : new int[] {-1, 0, 4, LOW, HIGH}) {
            refused("rowLength " + many, ARGUMENT, Samples::busy, x -> x.rowLength(many));
            refused("rowAt " + many, ARGUMENT, Samples::busy, x -> x.rowAt(many, 0));
            refused("rowLength " + many + " before too many states", ARGUMENT, Samples::crowded, x -> x.rowLength(many));
            refused("rowAt " + many + " before too many states", ARGUMENT, Samples::crowded, x -> x.rowAt(many, 0));
            refused("rowAt " + many + " before no move", ARGUMENT, Samples::busy, x -> x.rowAt(many, 99));
        }
        for (int many = 1; many <= 3; many++) {
            int inside = many;
            refused("rowLength of too many states", MANY, Samples::crowded, x -> x.rowLength(inside));
            refused("rowAt of too many states", MANY, Samples::crowded, x -> x.rowAt(inside, 0));
            refused("rowAt of too many states before no move", MANY, Samples::crowded, x -> x.rowAt(inside, 999));
        }
        for (int many = 2; many <= 3; many++) {
            int inside = many;
            refused("rowLength of no such state", NONE, Samples::busy, x -> x.rowLength(inside));
            refused("rowAt of no such state", NONE, Samples::busy, x -> x.rowAt(inside, 0));
        }
        refused("rowAt behind the last move", NONE, Samples::busy, x -> x.rowAt(1, x.rowLength(1)));
        refused("rowAt ahead of the first move", NONE, Samples::busy, x -> x.rowAt(1, -1));
    }

    private static void waits() {
        for (int hand : new int[] {-1, 2, LOW, HIGH}) {
            refused("canStarve " + hand, INDEX, Samples::busy, x -> x.canStarve(hand));
            refused("overtakes " + hand, INDEX, Samples::busy, x -> x.overtakes(hand, 0));
            refused("overtakes other " + hand, INDEX, Samples::busy, x -> x.overtakes(0, hand));
            refused("overtakes both " + hand + " before both the same", INDEX, Samples::busy,
                    x -> x.overtakes(hand, hand));
        }
        refused("canStarve 3 before too many states", INDEX, Samples::crowded, x -> x.canStarve(3));
        refused("overtakes 3 before too many states", INDEX, Samples::crowded, x -> x.overtakes(3, 0));
        refused("overtakes other 3 before too many states", INDEX, Samples::crowded, x -> x.overtakes(0, 3));
        refused("overtakes both 3 before all", INDEX, Samples::crowded, x -> x.overtakes(3, 3));
        for (int number = 0; number < 2; number++) {
            int hand = number;
            refused("overtakes the same", ARGUMENT, Samples::busy, x -> x.overtakes(hand, hand));
            refused("overtakes the same before too many states", ARGUMENT, Samples::crowded, x -> x.overtakes(hand, hand));
        }
        refused("canStarve of too many states", MANY, Samples::crowded, x -> x.canStarve(2));
        refused("overtakes of too many states", MANY, Samples::crowded, x -> x.overtakes(0, 2));
    }

    private static void ends() {
        for (int number : new int[] {-1, 2, LOW, HIGH}) {
            refused("canEnd word " + number, INDEX, Samples::busy, x -> x.canEnd(number, 0));
            refused("canEnd word " + number + " before its value", INDEX, Samples::busy, x -> x.canEnd(number, 10));
            refused("canKeep hand " + number, INDEX, Samples::busy, x -> x.canKeep(number, 0, 0));
            refused("canKeep hand " + number + " before its register", INDEX, Samples::busy,
                    x -> x.canKeep(number, 3, 0));
            refused("canKeep hand " + number + " before its value", INDEX, Samples::busy,
                    x -> x.canKeep(number, 0, 10));
            refused("greatest word " + number, INDEX, Samples::busy, x -> x.greatest(number));
        }
        for (int value : new int[] {-1, 10, LOW, HIGH}) {
            refused("canEnd value " + value, ARGUMENT, Samples::busy, x -> x.canEnd(1, value));
            refused("canKeep value " + value, ARGUMENT, Samples::busy, x -> x.canKeep(1, 2, value));
            refused("canEnd value " + value + " before too many", ARGUMENT, Samples::crowded, x -> x.canEnd(0, value));
            refused("canKeep value " + value + " before too many", ARGUMENT, Samples::crowded,
                    x -> x.canKeep(0, 0, value));
        }
        for (int register : new int[] {-1, 3, LOW, HIGH}) {
            refused("canKeep register " + register, ARGUMENT, Samples::busy, x -> x.canKeep(1, register, 9));
            refused("canKeep register " + register + " before too many", ARGUMENT, Samples::crowded,
                    x -> x.canKeep(0, register, 0));
        }
        refused("canEnd word 1 before too many states", INDEX, Samples::crowded, x -> x.canEnd(1, 0));
        refused("canKeep hand 3 before too many states", INDEX, Samples::crowded, x -> x.canKeep(3, 0, 0));
        refused("greatest word 1 before too many states", INDEX, Samples::crowded, x -> x.greatest(1));
    }

    private static void agreement() {
        for (int value : new int[] {-1, 10, LOW, HIGH}) {
            refused("canDecide " + value, ARGUMENT, Samples::busy, x -> x.canDecide(value));
            refused("canDecide " + value + " before too many states", ARGUMENT, Samples::crowded, x -> x.canDecide(value));
        }
    }

    private static void tooManyStates() {
        refused("countStates", MANY, Samples::crowded, Ticketdoor::countStates);
        refused("countMoves", MANY, Samples::crowded, Ticketdoor::countMoves);
        refused("countEnds", MANY, Samples::crowded, Ticketdoor::countEnds);
        refused("mostInside", MANY, Samples::crowded, Ticketdoor::mostInside);
        refused("canEnd", MANY, Samples::crowded, x -> x.canEnd(0, 9));
        refused("canKeep", MANY, Samples::crowded, x -> x.canKeep(2, 2, 9));
        refused("countOutcomes", MANY, Samples::crowded, Ticketdoor::countOutcomes);
        refused("greatest", MANY, Samples::crowded, x -> x.greatest(0));
        refused("canDecide", MANY, Samples::crowded, x -> x.canDecide(0));
        refused("canDisagree", MANY, Samples::crowded, Ticketdoor::canDisagree);
        refused("countUndecided", MANY, Samples::crowded, Ticketdoor::countUndecided);
        refused("getState", MANY, Samples::crowded, Ticketdoor::getState);
        refused("insideShare", MANY, Samples::crowded, Ticketdoor::insideShare);
        refused("meanMoves", MANY, Samples::crowded, Ticketdoor::meanMoves);
    }

    private static void acts() {
        for (int hand : new int[] {-1, 2, LOW, HIGH}) {
            refused("movesAlone " + hand, INDEX, Samples::busy, x -> x.movesAlone(hand));
            refused("act " + hand, INDEX, Samples::busy, x -> x.act(hand, 0));
            refused("act " + hand + " before its choice", INDEX, Samples::busy, x -> x.act(hand, -1));
        }
        refused("movesAlone 3, crowded", INDEX, Samples::crowded, x -> x.movesAlone(3));
        refused("act 3, crowded", INDEX, Samples::crowded, x -> x.act(3, 0));
        refused("act of one that has ended", CANNOT, Samples::crowded, x -> x.act(1, 0));
        refused("act of one without steps", CANNOT, Samples::buffered, x -> x.act(2, 0));
        refused("act without room", CANNOT, Samples::buffered, x -> x.act(0, 0));
        refused("act that waits for its buffer", CANNOT, Samples::buffered, x -> x.act(1, 0));
        for (int choice : new int[] {-1, 1, LOW, HIGH}) {
            refused("act has ended, before choice " + choice, CANNOT, Samples::crowded, x -> x.act(1, choice));
            refused("act without room, before choice " + choice, CANNOT, Samples::buffered, x -> x.act(0, choice));
            refused("act waits, before choice " + choice, CANNOT, Samples::buffered, x -> x.act(1, choice));
            refused("act choice " + choice + " of a write", NONE, Samples::busy, x -> x.act(0, choice));
            refused("act choice " + choice + " of 'f'", NONE, Samples::busy, x -> x.act(1, choice));
            refused("act choice " + choice + " of a jump", NONE, Samples::crowded, x -> x.act(2, choice));
        }
        refused("act choice 2 of a toss", NONE, () -> Check.hands("z 0; d 0"), x -> x.act(0, 2));
        refused("act choice 4 of a read while it is written", NONE, Samples::torn, x -> x.act(1, 4));
        refused("act choice -1 of a read while it is written", NONE, Samples::torn, x -> x.act(1, -1));
    }

    private static void flushesAndDeaths() {
        for (int hand : new int[] {-1, 2, LOW, HIGH}) {
            refused("flush " + hand, INDEX, Samples::busy, x -> x.flush(hand));
            refused("die " + hand, INDEX, Samples::busy, x -> x.die(hand));
        }
        refused("flush 3", INDEX, Samples::buffered, x -> x.flush(3));
        refused("die 3", INDEX, Samples::buffered, x -> x.die(3));
        refused("flush without buffers", NONE, Samples::busy, x -> x.flush(0));
        refused("flush of an empty one", NONE, Samples::buffered, x -> x.flush(2));
        refused("die is not told", CANNOT, Samples::busy, x -> x.die(1));
        refused("die is not told, buffered", CANNOT, Samples::buffered, x -> x.die(0));
        refused("die twice", CANNOT, Samples::buffered, x -> x.die(1));
        refused("die behind the end", CANNOT, Samples::buffered, x -> x.die(2));
    }

    private static void looks() {
        for (int number : new int[] {-1, 2, LOW, HIGH}) {
            refused("getNext " + number, INDEX, Samples::busy, x -> x.getNext(number));
            refused("getRegister " + number, INDEX, Samples::busy, x -> x.getRegister(number, 0));
            refused("getRegister " + number + " before its register", INDEX, Samples::busy,
                    x -> x.getRegister(number, 3));
            refused("getWord " + number, INDEX, Samples::busy, x -> x.getWord(number));
            refused("isInside " + number, INDEX, Samples::busy, x -> x.isInside(number));
            refused("isTrying " + number, INDEX, Samples::busy, x -> x.isTrying(number));
            refused("getDecided " + number, INDEX, Samples::busy, x -> x.getDecided(number));
            refused("countBuffered " + number, INDEX, Samples::busy, x -> x.countBuffered(number));
        }
        for (int register : new int[] {-1, 3, LOW, HIGH}) {
            refused("getRegister register " + register, ARGUMENT, Samples::busy, x -> x.getRegister(1, register));
        }
        refused("getDecided of nothing", NONE, Samples::busy, x -> x.getDecided(0));
    }

    private static void calls() {
        for (Samples.Maker maker : new Samples.Maker[] {Samples::busy, Samples::full}) {
            String where = maker.make().countOrders() == 0 ? " before 6 calls" : "";
            for (char kind : new char[] {'x', 'W', 'i', 0, (char) ('r' + 256), Character.MAX_VALUE}) {
                refused("addCall kind " + (int) kind + where, ARGUMENT, maker, x -> x.addCall(kind, 0, 0, 1));
            }
            for (int value : new int[] {-1, 10, LOW, HIGH}) {
                refused("addCall value " + value + where, ARGUMENT, maker, x -> x.addCall('w', value, 0, 1));
            }
            for (int begin : new int[] {-1, 1000, LOW, HIGH}) {
                refused("addCall begin " + begin + where, ARGUMENT, maker, x -> x.addCall('r', 0, begin, 999));
            }
            for (int end : new int[] {-1, 0, 500, 1000, LOW, HIGH}) {
                refused("addCall end " + end + where, ARGUMENT, maker, x -> x.addCall('e', 0, 500, end));
            }
        }
        for (char kind : new char[] {'w', 'r', 'e', 'd'}) {
            refused("addCall with 6, " + kind, STATE, Samples::full, x -> x.addCall(kind, 9, 998, 999));
        }
    }

    private static void orders() {
        for (int index : new int[] {-1, 3, LOW, HIGH}) {
            refused("orderAt " + index, NONE, Samples::busy, x -> x.orderAt(index));
        }
        for (int index : new int[] {-1, 0, 5, 6, LOW, HIGH}) {
            refused("orderAt " + index + " without an order", NONE, Samples::full, x -> x.orderAt(index));
            refused("orderAt " + index + " without calls", NONE, Samples::empty, x -> x.orderAt(index));
        }
    }
}
