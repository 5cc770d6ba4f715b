/** Promises 15 and 16: waits for ever that are fair, and overtaking. */
public final class WaitsTest {
    private static final Class<?> NO_INDEX = IndexOutOfBoundsException.class;
    private static final String LOCK_ONCE = "t; k 0 1; s 0 0; < 1 0 1; i; o; w 0 0";
    private static final String LOCK = LOCK_ONCE + "; j 0 0 0";

    public static void main(String[] args) {
        waitsOfOne();
        waitsForAnEnd();
        waitsAtALock();
        waitsForABuffer();
        overtakingOnce();
        overtakingInOneTry();
        overtakingWithoutABound();
        turns();
        changesAreSeen();
        Check.finish("WaitsTest");
    }

    private static Ticketdoor withWord(String... programs) {
        Ticketdoor x = new Ticketdoor();
        x.addWord(0, false, 1);
        x.addWord(0, false, 1);
        x.addWord(0, false, 1);
        return Check.withHands(x, programs);
    }

    private static void waitsOfOne() {
        Check.due("from a state to itself", true, () -> Check.hands("t; j 0 0 1").canStarve(0));
        Check.due("a circle of two", true, () -> Check.hands("t; o; j 0 0 1").canStarve(0));
        Check.due("at least one move", false, () -> Check.hands("t").canStarve(0));
        Check.due("not trying", false, () -> Check.hands("o; j 0 0 0").canStarve(0));
        Check.due("trying in some alone", false, () -> Check.hands("t; i; j 0 0 0").canStarve(0));
        Check.due("also inside", true, () -> Check.hands("i; t; j 0 0 2").canStarve(0));
        Check.due("going out tries on", true, () -> Check.hands("i; t; o; j 0 0 3").canStarve(0));
        Check.due("no hand", NO_INDEX, () -> Check.hands("t").canStarve(1));
        Check.due("no hand below", NO_INDEX, () -> Check.hands("t").canStarve(-1));
    }

    private static void waitsForAnEnd() {
        Ticketdoor ended = Check.hands("t", "j 0 0 0");
        Check.due("has ended trying, and the other goes on", true, () -> ended.canStarve(0));
        Check.due("the other never tries", false, () -> ended.canStarve(1));
        Ticketdoor once = withWord("k 0 1; w 0 0", "t; r 0 0; = 0 1 1; i");
        Check.due("the other must make its steps", false, () -> once.canStarve(1));
        Ticketdoor never = withWord("k 0 1", "t; r 0 0; = 0 1 1; i");
        Check.due("and ends without them", true, () -> never.canStarve(1));
        Ticketdoor dead = withWord("k 0 1; w 0 0", "t; r 0 0; = 0 1 1; i");
        dead.setDeath(0, 16);
        Check.due("or dies", true, () -> dead.canStarve(1));
        dead.setDeath(0, 0);
        Check.due("or begins anew", false, () -> dead.canStarve(1));
    }

    private static void waitsAtALock() {
        Ticketdoor once = withWord(LOCK_ONCE, LOCK_ONCE);
        Check.due("one inside", 1, once::mostInside);
        Check.due("each goes in once", false, () -> once.canStarve(0) || once.canStarve(1));
        once.setDeath(1, 16);
        Check.due("one dies inside", true, () -> once.canStarve(0));
        Check.due("it does not wait itself", false, () -> once.canStarve(1));
        Ticketdoor often = withWord(LOCK, LOCK);
        Check.due("goes in again and again", true, () -> often.canStarve(0) && often.canStarve(1));
    }

    /** A buffer may hold what it has for ever: only steps must be made. */
    private static void waitsForABuffer() {
        Ticketdoor x = withWord("k 0 1; w 0 0", "t; r 0 0; = 0 1 1; i");
        x.setBuffers(true);
        Check.due("has ended with a full buffer", true, () -> x.canStarve(1));
        x.addStep(0, 'y', 0, 0, 0);
        Check.due("its step waits for its buffer", false, () -> x.canStarve(1));
    }

    private static void overtakingOnce() {
        Ticketdoor x = Check.hands("i; i", "t; i");
        Check.due("by each going inside", 2, () -> x.overtakes(0, 1));
        Check.due("who does not try", 0, () -> x.overtakes(1, 0));
        Check.due("both the same", IllegalArgumentException.class, () -> x.overtakes(1, 1));
        Check.due("no hand", NO_INDEX, () -> x.overtakes(2, 0));
        Check.due("no other", NO_INDEX, () -> x.overtakes(0, 2));
        Check.due("no hand twice", NO_INDEX, () -> x.overtakes(2, 2));
        Check.due("below", NO_INDEX, () -> x.overtakes(-1, 0));
        Check.due("other below", NO_INDEX, () -> x.overtakes(0, -1));
        Ticketdoor third = Check.hands("i", "t", "i; o; i; o; i");
        Check.due("its own going inside", 1, () -> third.overtakes(0, 1));
        Check.due("the third one's", 3, () -> third.overtakes(2, 1));
        Check.due("nobody tries", 0, () -> third.overtakes(2, 0));
        Ticketdoor both = Check.hands("t; i", "t; i");
        Check.due("while trying itself", 1, () -> both.overtakes(0, 1));
        Ticketdoor lock = withWord(LOCK_ONCE, LOCK_ONCE);
        Check.due("at a lock", 1, () -> lock.overtakes(1, 0));
    }

    /** Hand 0 goes in once in each of hand 1's two tries, as they wait for each other. */
    private static void overtakingInOneTry() {
        Ticketdoor x = withWord("i; k 0 1; w 0 0; r 1 1; = 1 2 3; i", "t; r 0 0; = 0 1 1; i; t; k 0 1; w 0 1");
        Check.due("in one try", 1, () -> x.overtakes(0, 1));
        Ticketdoor death = Check.hands("i", "t; j 0 0 1");
        death.setDeath(1, 0);
        Check.due("a death ends the try", 1, () -> death.overtakes(0, 1));
    }

    private static void overtakingWithoutABound() {
        Ticketdoor x = Check.hands("i; j 0 0 0", "t");
        Check.due("again and again", -1, () -> x.overtakes(0, 1));
        Check.due("not the other way", 0, () -> x.overtakes(1, 0));
        Ticketdoor lock = withWord(LOCK, LOCK);
        Check.due("at a lock", -1, () -> lock.overtakes(0, 1));
        Ticketdoor dies = Check.hands("i; o", "t");
        dies.setDeath(0, 0);
        Check.due("a death is no circle", 2, () -> dies.overtakes(0, 1));
        Ticketdoor circle = Check.hands("i; i; o; j 0 0 2", "t");
        Check.due("a circle in which it does not go in", 2, () -> circle.overtakes(0, 1));
    }

    private static void changesAreSeen() {
        Ticketdoor x = Check.hands("o", "i");
        Check.due("nobody tries", false, () -> x.canStarve(0));
        Check.steps(x, 0, "t; j 0 0 2");
        Check.due("one tries", true, () -> x.canStarve(0));
        x.dropSteps(0);
        Check.due("nobody tries again", false, () -> x.canStarve(0));
        Check.due("nobody is overtaken", 0, () -> x.overtakes(1, 0));
        Check.steps(x, 0, "t");
        Check.due("once", 1, () -> x.overtakes(1, 0));
        Check.steps(x, 1, "i; o; i");
        Check.due("three times", 3, () -> x.overtakes(1, 0));
        Check.steps(x, 1, "j 0 0 1");
        Check.due("without a bound", -1, () -> x.overtakes(1, 0));
    }

    /** Peterson's way, trying told once the turn is given away: the other one goes in once at most. */
    private static void turns() {
        Ticketdoor x = withWord("k 0 1; w 0 0; w 0 2; t; r 1 1; = 1 2 9; r 1 2; = 1 2 9; j 0 0 4; i; o; w 2 0; j 0 0 0",
                "k 0 1; w 0 1; w 2 2; t; r 1 0; = 1 2 9; r 1 2; = 1 0 9; j 0 0 4; i; o; w 2 1; j 0 0 0");
        Check.due("one inside", 1, x::mostInside);
        Check.due("nobody starves", false, () -> x.canStarve(0) || x.canStarve(1));
        Check.due("overtaken once", 1, () -> x.overtakes(0, 1));
        Check.due("once the other way", 1, () -> x.overtakes(1, 0));
    }
}
