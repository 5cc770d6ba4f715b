/** Promises 15, 16 and 21 to 23 at their edges: waits for ever, overtaking, agreement. */
public final class EdgesOfWaitsTest {
    private static final Class<?> INDEX = IndexOutOfBoundsException.class;
    private static final Class<?> BAD = IllegalArgumentException.class;

    public static void main(String[] args) {
        tryingInAllOfThem();
        movesAtLeastOne();
        eachFromEach();
        eachHandMakesAMove();
        endedHandsNeedNot();
        byItsStepAlone();
        handsOfWaits();
        oftenAsItGoesInside();
        whileThatOneIsTrying();
        fromAnyState();
        byAnyHandsMovesBetween();
        withoutABound();
        eachPairForItself();
        handsOfOvertaking();
        decidedInEnds();
        twoValuesInOneEnd();
        undecidedStates();
        Check.finish("EdgesOfWaitsTest");
    }

    /** "states in all of which it is trying". */
    private static void tryingInAllOfThem() {
        Check.due("in all", true, () -> Check.hands("t; o; j 0 0 1").canStarve(0));
        Check.due("in none", false, () -> Check.hands("o; o; j 0 0 1").canStarve(0));
        Check.due("in all but one", false, () -> Check.hands("t; i; j 0 0 0").canStarve(0));
        Check.due("not from the first one on", true, () -> Check.hands("i; o; o; t; j 0 0 4").canStarve(0));
        Check.due("inside and trying", true, () -> Check.hands("i; t; j 0 0 2").canStarve(0));
        Check.due("trying anew each time", true, () -> Check.hands("t; j 0 0 0").canStarve(0));
        Check.due("another one is trying", false, () -> Check.hands("j 0 0 0", "t; j 0 0 1").canStarve(0));
        Check.due("that one", true, () -> Check.hands("j 0 0 0", "t; j 0 0 1").canStarve(1));
        Check.due("in a part of a greater circle", true, () -> Check.hands("t; z 0; = 0 1 1; i; j 0 0 0").canStarve(0));
    }

    /** "by moves within them, at least one, that from a state to itself counted". */
    private static void movesAtLeastOne() {
        Check.due("no move", false, () -> Check.hands("t").canStarve(0));
        Check.due("no move within them", false, () -> Check.hands("t; o").canStarve(0));
        Check.due("one to itself", true, () -> Check.hands("t; j 0 0 1").canStarve(0));
        Check.due("two", true, () -> Check.hands("t; o; j 0 0 1").canStarve(0));
        Check.due("many", true, () -> Check.hands("t; " + "o; ".repeat(13) + "j 0 0 1").canStarve(0));
        Check.due("one out of it", false, () -> Check.hands("t; " + "o; ".repeat(13) + "j 0 0 16").canStarve(0));
    }

    /** "each of which can be come to from each": a row that does not come back is no circle. */
    private static void eachFromEach() {
        Ticketdoor x = Check.hands("t; o; o", "t; o; o");
        Check.due("no way back", false, () -> x.canStarve(0) || x.canStarve(1));
        Check.due("ways that meet", false, () -> Check.hands("t; z 0; = 0 1 4; o; k 0 0").canStarve(0));
        Ticketdoor death = Check.hands("t; o; h");
        death.setDeath(0, 0);
        Check.due("a death leads back once alone", false, () -> death.canStarve(0));
        Ticketdoor counts = Check.withHands(Check.words(0), "t; f 0 0; j 0 0 1");
        Check.due("round by 9", true, () -> counts.canStarve(0));
    }

    /** "in which each hand that has not ended makes a move by its step". */
    private static void eachHandMakesAMove() {
        Check.due("both go on", true, () -> Check.hands("t; j 0 0 1", "j 0 0 0").canStarve(0));
        Ticketdoor turns = Check.withHands(Check.words(0), "t; r 0 0; = 0 1 1; i", "k 0 1; w 0 0; j 0 0 2");
        Check.due("the other one opens", false, () -> turns.canStarve(0));
        Ticketdoor three = Check.withHands(Check.words(0), "t; r 0 0; = 0 1 1; i", "j 0 0 0", "k 0 1; w 0 0");
        Check.due("two of three go on, the third one opens", false, () -> three.canStarve(0));
        Ticketdoor never = Check.withHands(Check.words(0), "t; r 0 0; = 0 1 1; i", "j 0 0 0", "k 0 1; o");
        Check.due("two of three go on, the third one ends", true, () -> never.canStarve(0));
        Check.due("the waiting one must make its step, too", false, () -> waitsForItsBuffer(false).canStarve(0));
        Check.due("and can as long as it is trying", true, () -> waitsForItsBuffer(true).canStarve(0));
    }

    /** Hand 0 tries behind a write; its 'y' waits, and once its buffer is empty it goes inside, or round. */
    private static Ticketdoor waitsForItsBuffer(boolean goesRound) {
        Ticketdoor x = Check.withHands(Check.words(0), "w 0 0; t; y; " + (goesRound ? "j 0 0 2" : "i"), "j 0 0 0");
        x.setBuffers(true);
        return x;
    }

    /** "each hand that has not ended": with one that has, by its last step, 'h', a jump and its death. */
    private static void endedHandsNeedNot() {
        for (String end : new String[] {"", "h", "j 0 0 16", "k 0 1"}) {
            Check.due("ended by " + end, true, () -> Check.hands("t; j 0 0 1", end).canStarve(0));
            Check.due("it ended trying", true, () -> Check.hands("t; " + end, "j 0 0 0").canStarve(0));
            Check.due("all ended", false, () -> Check.hands("t; " + end, end).canStarve(0));
        }
        Check.due("two of three ended", true, () -> Check.hands("", "t; j 0 0 1", "h").canStarve(1));
        Check.due("the first two ended", true, () -> Check.hands("", "h", "t; j 0 0 1").canStarve(2));
        Check.due("the last two ended", true, () -> Check.hands("t; j 0 0 1", "h", "").canStarve(0));
        Ticketdoor dies = Check.withHands(Check.words(0), "t; r 0 0; = 0 1 1; i", "k 0 1; w 0 0");
        Check.due("it cannot die", false, () -> dies.canStarve(0));
        dies.setDeath(1, 2);
        Check.due("ended by its death", true, () -> dies.canStarve(0));
        dies.setDeath(1, 1);
        Check.due("its death leads to its last step", true, () -> dies.canStarve(0));
        dies.setDeath(1, 0);
        Check.due("it begins anew", false, () -> dies.canStarve(0));
    }

    /** "makes a move by its step": what its buffer does is none. */
    private static void byItsStepAlone() {
        Ticketdoor x = Check.withHands(Check.words(0), "t; r 0 0; = 0 1 1; i", "k 0 1; w 0 0; y; o");
        x.setBuffers(true);
        Check.due("its step waits for its buffer", false, () -> x.canStarve(0));
        x.dropSteps(1);
        Check.steps(x, 1, "k 0 1; w 0 0");
        Check.due("it has ended with its buffer", true, () -> x.canStarve(0));
        x.addStep(1, 'j', 0, 0, 2);
        Check.due("it goes on with its buffer", true, () -> x.canStarve(0));
        String[] waiting = {"w 0 0; y; j 0 0 0", "j 0 0 2; w 0 0; y; j 0 0 1", "y; w 0 0; j 0 0 0", "y; y; w 0 0; j 0 0 1"};
        for (String program : waiting) {
            Ticketdoor turns = Check.withHands(Check.words(0), "t; j 0 0 1", program);
            turns.setBuffers(true);
            Check.due("a move by its step in some of the states: " + program, true, () -> turns.canStarve(0));
        }
    }

    private static void handsOfWaits() {
        for (int count = 0; count <= 3; count++) {
            Ticketdoor x = new Ticketdoor();
            for (int hand = 0; hand < count; hand++) {
                Check.withHands(x, "t; j 0 0 1");
            }
            for (int hand : new int[] {Integer.MIN_VALUE, -1, 0, 1, 2, 3, Integer.MAX_VALUE}) {
                boolean is = hand >= 0 && hand < count;
                Check.due("hand " + hand + " of " + count, is ? (Object) true : INDEX, () -> x.canStarve(hand));
            }
        }
    }

    /** "as often as it goes inside, by each 'i'": none, one, two and fifteen. */
    private static void oftenAsItGoesInside() {
        for (int number : new int[] {0, 1, 2, 15, 16}) {
            int times = number;
            Check.due("by each 'i', also inside", times, () -> Check.hands("i; ".repeat(times), "t").overtakes(0, 1));
        }
        Check.due("out and in", 3, () -> Check.hands("i; o; i; o; i", "t").overtakes(0, 1));
        Check.due("by the longer of two ways", 3, () -> Check.hands("z 0; = 0 1 3; i; i; i", "t").overtakes(0, 1));
        Check.due("by the longer of two ways, the other one", 3,
                () -> Check.hands("z 0; = 0 1 3; h; i; i; i", "t").overtakes(0, 1));
        Check.due("anew behind its death", 3, () -> {
            Ticketdoor x = Check.hands("i; i; o", "t");
            x.setDeath(0, 1);
            return x.overtakes(0, 1);
        });
    }

    /** "while that one is trying, in a row of moves ... in all of which that one is trying". */
    private static void whileThatOneIsTrying() {
        Check.due("never trying", 0, () -> Check.hands("i; i", "o; i").overtakes(0, 1));
        Check.due("trying, and no more", 2, () -> Check.hands("i; i", "t; i").overtakes(0, 1));
        Check.due("trying inside", 2, () -> Check.hands("i; i", "i; t; o").overtakes(0, 1));
        Check.due("trying twice, with all in one try", 2, () -> Check.hands("i; i", "t; i; t; i").overtakes(0, 1));
        Ticketdoor each = Check.withHands(Check.words(0, 0), "i; k 0 1; w 0 0; r 1 1; = 1 2 3; i",
                "t; r 0 0; = 0 1 1; i; t; k 0 1; w 0 1");
        Check.due("trying twice, with one in each try", 1, () -> each.overtakes(0, 1));
        Ticketdoor dies = Check.withHands(Check.words(0), "i; i", "t; j 0 0 1");
        dies.setDeath(1, 16);
        Check.due("a death ends the try", 2, () -> dies.overtakes(0, 1));
        for (int step = 0; step <= 3; step++) {
            int next = step;
            Ticketdoor anew = Check.hands("i; i; i; o", "t; o");
            anew.setDeath(0, next);
            Check.due("a death of its own goes on in the row", 6 - next, () -> anew.overtakes(0, 1));
        }
        Check.due("its own try is nothing", 1, () -> Check.hands("t; i", "t").overtakes(0, 1));
        Check.due("the third one's try is nothing", 0, () -> Check.hands("i", "o", "t").overtakes(0, 1));
        Check.due("the third one's way inside is nothing", 1, () -> Check.hands("i", "t", "i; i").overtakes(0, 1));
    }

    /** "from any state that can be come to": not from the first one alone, nor from where the try begins. */
    private static void fromAnyState() {
        Check.due("from the first one it is not trying", 1, () -> Check.hands("o; o; i", "o; o; t").overtakes(0, 1));
        for (int idle = 0; idle < 6; idle++) {
            Ticketdoor flushed = Check.withHands(Check.words(0), "o; ".repeat(idle) + "w 0 0; y; i; i", "t");
            flushed.setBuffers(true);
            Check.due("behind its buffer's move and " + idle, 2, () -> flushed.overtakes(0, 1));
            Ticketdoor other = Check.withHands(Check.words(0), "k 1 1; r 0 0; = 0 1 4; h; i; i", "o; ".repeat(idle) + "t; k 0 1; w 0 0");
            other.setBuffers(true);
            Check.due("behind the other one's buffer's move and " + idle, 2, () -> other.overtakes(0, 1));
        }
        Check.due("from behind a toss", 2, () -> Check.hands("i; i", "z 0; = 0 1 4; t; h; o").overtakes(0, 1));
        Ticketdoor never = Check.withHands(Check.words(0), "r 0 0; k 1 5; = 0 1 4; h; i; i", "t");
        Check.due("a state that cannot be come to", 0, () -> never.overtakes(0, 1));
    }

    /** "in a row of moves": of all hands, so that one goes inside again behind what another one must do between. */
    private static void byAnyHandsMovesBetween() {
        String twice = "i; k 0 1; w 0 0; r 1 1; = 1 0 6; j 0 0 3; i; h";
        String answers = "r 0 0; = 0 1 0; k 0 1; w 0 1";
        Check.due("the third one answers", 2,
                () -> Check.withHands(Check.words(0, 0), twice, "t", answers).overtakes(0, 1));
        Check.due("the third one answers, the other way", 2,
                () -> Check.withHands(Check.words(0, 0), answers, "t", twice).overtakes(2, 1));
        String asks = "t; r 0 0; = 0 1 1; k 0 1; w 0 1";
        Check.due("the overtaken one answers", 2, () -> Check.withHands(Check.words(0, 0), twice, asks).overtakes(0, 1));
        Check.due("the overtaken one answers, the other way", 2,
                () -> Check.withHands(Check.words(0, 0), asks, twice).overtakes(1, 0));
        Check.due("the overtaken one answers, and tries no more", 1,
                () -> Check.withHands(Check.words(0, 0), twice, asks.replace("k 0 1", "i; k 0 1")).overtakes(0, 1));
        Check.due("nobody answers", 1, () -> Check.withHands(Check.words(0, 0), twice, "t", "o").overtakes(0, 1));
        Ticketdoor buffered = Check.withHands(Check.words(0, 0), twice, "t; r 0 0; = 0 1 1; k 0 1; w 0 1; h");
        buffered.setBuffers(true);
        Check.due("both buffers' moves between", 2, () -> buffered.overtakes(0, 1));
        Ticketdoor dies = Check.withHands(Check.words(0, 0), twice, "t", "r 0 0; = 0 1 0; j 0 0 2; k 0 1; w 0 1");
        Check.due("the third one is caught", 1, () -> dies.overtakes(0, 1));
        dies.setDeath(2, 3);
        Check.due("its death between", 2, () -> dies.overtakes(0, 1));
    }

    /** "-1 without a bound": a circle with an 'i' in it, and one without. */
    private static void withoutABound() {
        Check.due("a circle of 'i'", -1, () -> Check.hands("i; j 0 0 0", "t").overtakes(0, 1));
        Check.due("a circle behind some", -1, () -> Check.hands("i; o; i; o; j 0 0 2", "t; i").overtakes(0, 1));
        Check.due("a circle behind the last one", 3, () -> Check.hands("i; i; i; o; j 0 0 3", "t; i").overtakes(0, 1));
        Check.due("a circle ahead of the first one", 2, () -> Check.hands("z 0; = 0 1 0; i; i", "t").overtakes(0, 1));
        Check.due("a circle of the other one", 2, () -> Check.hands("i; i", "t; j 0 0 1").overtakes(0, 1));
        Check.due("a circle out of its try", 1, () -> Check.withHands(Check.words(0),
                "r 0 0; = 0 1 0; i; k 0 0; w 0 0; j 0 0 0", "t; k 0 1; w 0 0; i; r 0 0; = 0 2 0; j 0 0 4").overtakes(0, 1));
        Check.due("no fair one is asked for", -1, () -> Check.hands("i; j 0 0 0", "t; i", "o").overtakes(0, 1));
    }

    /** Each hand goes inside as often as it does, whichever other one is trying. */
    private static void eachPairForItself() {
        Ticketdoor x = Check.hands("t; i", "t; i; i", "t; i; i; i");
        Ticketdoor two = Check.hands("i; j 0 0 0", "t; o", "i; i");
        int[] dueOfTwo = {-1, 0, 2};
        for (int number = 0; number < 3; number++) {
            int hand = number;
            for (int other = 0; other < 3; other++) {
                int at = other;
                Check.due(hand + " overtakes " + at, at == hand ? BAD : (Object) (hand + 1), () -> x.overtakes(hand, at));
            }
            Check.due(hand + " overtakes the only one that tries", hand == 1 ? BAD : (Object) dueOfTwo[hand],
                    () -> two.overtakes(hand, 1));
            Check.due(hand + " overtakes one that never tries", hand == 2 ? BAD : (Object) 0, () -> two.overtakes(hand, 2));
        }
    }

    /** "if there is no such hand, for either", "if both are the same". */
    private static void handsOfOvertaking() {
        for (int count = 0; count <= 3; count++) {
            Ticketdoor x = new Ticketdoor();
            for (int hand = 0; hand < count; hand++) {
                Check.withHands(x, "t");
            }
            for (int hand : new int[] {-1, 0, 1, 2, 3, Integer.MAX_VALUE}) {
                for (int other : new int[] {Integer.MIN_VALUE, -1, 0, 1, 2, 3}) {
                    boolean are = hand >= 0 && hand < count && other >= 0 && other < count;
                    Check.due(hand + " and " + other + " of " + count, !are ? INDEX : hand == other ? BAD : (Object) 0,
                            () -> x.overtakes(hand, other));
                }
            }
        }
    }

    /** "Tells whether a value is decided in some end", "`value`: 0 to 9". */
    private static void decidedInEnds() {
        for (int number = 0; number < 10; number++) {
            int decided = number;
            for (int hand = 0; hand < 3; hand++) {
                String[] programs = {"o", "o", "o"};
                programs[hand] = "d 1; k 0 " + decided + "; d 0";
                Ticketdoor x = Check.hands(programs);
                for (int value = 0; value < 10; value++) {
                    int at = value;
                    Check.due("decided " + value, value == decided, () -> x.canDecide(at));
                }
            }
        }
        for (int value : new int[] {Integer.MIN_VALUE, -1, 10, Integer.MAX_VALUE}) {
            Check.due("value " + value, BAD, () -> Check.hands("d 0").canDecide(value));
        }
        Check.due("nothing", false, () -> Check.hands("k 0 1").canDecide(0));
        Check.due("no end", false, () -> Check.hands("d 0; j 0 0 1").canDecide(0));
        Check.due("no hand", false, () -> new Ticketdoor().canDecide(0));
        for (int value = 0; value < 10; value++) {
            int at = value;
            Ticketdoor full = Check.withHands(Check.words(value, value, value, value, value, value), "", "o", "k 0 9; d 0");
            Check.due("a word's value is not decided", value == 9, () -> full.canDecide(at));
            Check.due("nor is another one", 1, () -> {
                int decided = 0;
                for (int other = 0; other < 10; other++) {
                    decided += full.canDecide(other) ? 1 : 0;
                }
                return decided;
            });
        }
        Ticketdoor x = Check.hands("k 0 3; d 0; j 0 0 2");
        x.setDeath(0, 16);
        Check.due("what it decided stays", true, () -> x.canDecide(3));
        Check.due("it is not 0 then", false, () -> x.canDecide(0));
    }

    /** "Tells whether two values are decided in some end." */
    private static void twoValuesInOneEnd() {
        Check.due("one hand", false, () -> Check.hands("d 0; k 0 1; d 0").canDisagree());
        Check.due("two hands alike", false, () -> Check.hands("d 0", "d 1").canDisagree());
        Check.due("two hands, 0 and 1", true, () -> Check.hands("d 0", "k 0 1; d 0").canDisagree());
        Check.due("two hands, 8 and 9", true, () -> Check.hands("k 0 8; d 0", "k 0 9; d 0").canDisagree());
        Check.due("the third one", true, () -> Check.hands("d 0", "d 0", "k 0 9; d 0").canDisagree());
        Check.due("a hand that decided nothing", false, () -> Check.hands("k 0 9; d 0", "o").canDisagree());
        Check.due("in two ends", false, () -> Check.hands("z 0; d 0").canDisagree());
        Check.due("in one of many ends", true, () -> Check.hands("z 0; d 0", "d 0").canDisagree());
        Check.due("in no end", false, () -> Check.hands("d 0; j 0 0 1", "k 0 1; d 0").canDisagree());
        Check.due("no hand", false, () -> new Ticketdoor().canDisagree());
    }

    /** "undecided if two unlike values are decided in ends that can be come to from it, in one or in several". */
    private static void undecidedStates() {
        Check.due("none", 0, () -> Check.hands("d 0").countUndecided());
        Check.due("no end", 0, () -> Check.hands("z 0; d 0; j 0 0 2").countUndecided());
        Check.due("in several", 1, () -> Check.hands("z 0; d 0").countUndecided());
        Check.due("in several, later", 3, () -> Check.hands("o; o; z 0; d 0").countUndecided());
        Check.due("in several, by one of two tosses", 1, () -> Check.hands("z 0; z 1; d 0").countUndecided());
        Check.due("in several, by the second toss", 3, () -> Check.hands("z 1; z 0; d 0").countUndecided());
        Check.due("in several, by one of three tosses", 1, () -> Check.hands("z 0; z 1; z 2; d 0").countUndecided());
        for (int idle = 0; idle < 6; idle++) {
            Ticketdoor flushed = Check.withHands(Check.words(5), "o; ".repeat(idle) + "z 0; d 0; w 0 0");
            flushed.setBuffers(true);
            Check.due("in several, behind their buffers' moves and " + idle, idle + 1, flushed::countUndecided);
        }
        Ticketdoor asked = Check.hands("i; i; i; d 0", "t; d 0");
        Check.due("asked for overtaking ahead of it", 3, () -> asked.overtakes(0, 1));
        Check.due("none, as before", 0, asked::countUndecided);
        Check.due("asked for overtaking behind it", 3, () -> asked.overtakes(0, 1));
        Check.due("in several that are alike", 0, () -> Check.hands("z 0; d 1").countUndecided());
        Check.due("in one, the end itself too", 4 + 2, () -> Check.hands("d 0", "k 0 1; d 0").countUndecided());
        Check.due("one decides, one nothing", 0, () -> Check.hands("z 0; = 0 1 3; h; d 0").countUndecided());
        Check.due("a circle", 4, () -> Check.hands("z 0; = 0 1 0; z 0; d 0").countUndecided());
        Ticketdoor all = Check.hands("d 0", "k 0 9; d 0", "j 0 0 0");
        Check.due("no end, as one goes on for ever", 0, all::countUndecided);
        all.setDeath(2, 16);
        Check.due("all of them once it can die", 12, all::countUndecided);
        Check.due("of twelve", 12, all::countStates);
    }
}
