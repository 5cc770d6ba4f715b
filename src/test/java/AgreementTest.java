/** Promises 21 to 23: what is decided in ends, and which states are undecided. */
public final class AgreementTest {
    private static final Class<?> BAD = IllegalArgumentException.class;

    public static void main(String[] args) {
        oneToss();
        twoHands();
        anew();
        withoutEnds();
        swapDecides();
        deathKeeps();
        severalEnds();
        changesAreSeen();
        Check.finish("AgreementTest");
    }

    private static void oneToss() {
        Ticketdoor x = Check.hands("z 0; d 0");
        Check.due("0", true, () -> x.canDecide(0));
        Check.due("1", true, () -> x.canDecide(1));
        Check.due("2", false, () -> x.canDecide(2));
        Check.due("9", false, () -> x.canDecide(9));
        Check.due("below", BAD, () -> x.canDecide(-1));
        Check.due("above", BAD, () -> x.canDecide(10));
        Check.due("never two in one end", false, x::canDisagree);
        Check.due("undecided before the toss alone", 1, x::countUndecided);
    }

    private static void twoHands() {
        Ticketdoor x = Check.hands("k 0 9; d 0", "k 0 2; d 0");
        Check.due("two in one end", true, x::canDisagree);
        Check.due("9", true, () -> x.canDecide(9));
        Check.due("all are undecided, the end too", 9, x::countUndecided);
        Ticketdoor like = Check.hands("k 0 2; d 0", "k 1 2; d 1");
        Check.due("two alike do not disagree", false, like::canDisagree);
        Check.due("nor are they undecided", 0, like::countUndecided);
        Ticketdoor none = Check.hands("k 0 2", "");
        Check.due("nothing decided", false, () -> none.canDecide(0) || none.canDecide(2) || none.canDisagree());
    }

    private static void anew() {
        Ticketdoor x = Check.hands("d 0; k 0 3; d 0");
        Check.due("the first one is lost", false, () -> x.canDecide(0));
        Check.due("the last one counts", true, () -> x.canDecide(3));
        Check.due("one value", 0, x::countUndecided);
    }

    private static void withoutEnds() {
        Ticketdoor x = Check.hands("k 0 1; d 0; j 0 0 2", "d 0");
        Check.due("decided, but in no end", false, () -> x.canDecide(0) || x.canDecide(1));
        Check.due("no end, no quarrel", false, x::canDisagree);
        Check.due("no end, nothing undecided", 0, x::countUndecided);
    }

    private static void swapDecides() {
        Ticketdoor x = new Ticketdoor();
        x.addWord(0, false, 1);
        Check.withHands(x, "k 1 1; n 0 0 1; r 2 0; d 2", "k 1 2; n 0 0 1; r 2 0; d 2");
        Check.due("agreed", false, x::canDisagree);
        Check.due("1", true, () -> x.canDecide(1));
        Check.due("2", true, () -> x.canDecide(2));
        Check.due("0", false, () -> x.canDecide(0));
        Check.due("undecided until one has swapped", 4, x::countUndecided);
    }

    private static void deathKeeps() {
        Ticketdoor x = Check.hands("k 0 4; d 0; j 0 0 2");
        x.setDeath(0, 16);
        Check.due("decided before it dies", true, () -> x.canDecide(4));
        Check.due("one value", 0, x::countUndecided);
    }

    private static void changesAreSeen() {
        Ticketdoor x = Check.hands("z 0", "k 0 1");
        Check.due("nothing decided", 0, x::countUndecided);
        Check.steps(x, 0, "d 0");
        Check.due("two before the toss", 2, x::countUndecided);
        Check.steps(x, 1, "d 0");
        Check.due("in one end", true, x::canDisagree);
        Check.due("all but those behind a 1", 9, x::countUndecided);
        x.dropSteps(0);
        Check.due("in no end any more", false, x::canDisagree);
        Check.due("0 in none", false, () -> x.canDecide(0));
        Check.due("1 in some", true, () -> x.canDecide(1));
        x.dropSteps(1);
        Check.due("1 in none", false, () -> x.canDecide(1));
        Check.due("nothing decided again", 0, x::countUndecided);
    }

    /** A circle from which two ends can be come to: all its states are undecided. */
    private static void severalEnds() {
        Ticketdoor x = Check.hands("z 0; = 0 1 0; z 0; d 0");
        // the toss of 0 leads back, so states are 0, 10, 11, 21, 30, 31 and two ends
        Check.due("states", 8, x::countStates);
        Check.due("undecided", 4, x::countUndecided);
    }
}
