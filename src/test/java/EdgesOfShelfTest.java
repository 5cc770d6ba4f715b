/** Promises 1 to 8 at their edges: each sentence at its boundary, just inside it and just outside it. */
public final class EdgesOfShelfTest {
    private static final Class<?> INDEX = IndexOutOfBoundsException.class;
    private static final Class<?> BAD = IllegalArgumentException.class;
    private static final Class<?> FULL = IllegalStateException.class;
    private static final Class<?> CANNOT = UnsupportedOperationException.class;
    private static final String KINDS = "rwk+m=<jsnfytiodzh";

    public static void main(String[] args) {
        atMostSixWords();
        valuesZeroToNine();
        greatestOneToNine();
        atMostThreeHands();
        atMostSixteenSteps();
        eachHandHasItsOwnSteps();
        ofZeroAtFirst();
        whoseWordsMustBeThere();
        registersZeroToTwo();
        numbersZeroToNine();
        stepsZeroToSixteen();
        nothingIsZero();
        kindsAlone();
        takesAllStepsAway();
        takesStepsOfOneHandAlone();
        setsBuffers();
        deathsMinusOneToSixteen();
        beginsARunAnew();
        Check.finish("EdgesOfShelfTest");
    }

    /** "At most 6 are numbered from 0", "Returns its number", "if there are 6". */
    private static void atMostSixWords() {
        Ticketdoor x = new Ticketdoor();
        for (int count = 0; count < 6; count++) {
            int word = count;
            Check.due("no word " + word + " yet", INDEX, () -> x.getWord(word));
            Check.due("word " + word, word, () -> x.addWord(9 - word, word % 2 == 0, 1 + word));
            Check.due("word " + word + " is there", 9 - word, () -> x.getWord(word));
        }
        Check.due("a seventh", FULL, () -> x.addWord(0, false, 1));
        Check.due("an eighth", FULL, () -> x.addWord(0, true, 9));
        Check.due("no word 6", INDEX, () -> x.getWord(6));
        Check.due("no word -1", INDEX, () -> x.getWord(-1));
        Check.due("the last one", 4, () -> x.getWord(5));
    }

    private static Object addedWord(int value, boolean isSafe, int most) {
        Ticketdoor x = new Ticketdoor();
        x.addWord(value, isSafe, most);
        return x.getWord(0);
    }

    /** "each with a value, 0 to 9, that which is told at first". */
    private static void valuesZeroToNine() {
        for (boolean isSafe : new boolean[] {false, true}) {
            for (int number = -2; number <= 11; number++) {
                int value = number;
                Object due = value < 0 || value > 9 ? BAD : (Object) value;
                Check.due("value " + value + ", safe " + isSafe, due, () -> addedWord(value, isSafe, 1));
                Check.due("value " + value + ", safe to 9 " + isSafe, due, () -> addedWord(value, isSafe, 9));
            }
            Check.due("the least int", BAD, () -> addedWord(Integer.MIN_VALUE, isSafe, 1));
            Check.due("the greatest int", BAD, () -> addedWord(Integer.MAX_VALUE, isSafe, 1));
        }
    }

    private static Object readBehind(int most, int choice) {
        Ticketdoor x = new Ticketdoor();
        x.addWord(9, true, most);
        Check.moves(Check.withHands(x, "w 0 0", "r 1 0"), "0");
        x.act(1, choice);
        return x.getRegister(1, 1);
    }

    /** "the greatest value, 1 to 9, that a safe one gives while it is written". */
    private static void greatestOneToNine() {
        for (int number = -2; number <= 11; number++) {
            int most = number;
            Object due = most < 1 || most > 9 ? BAD : (Object) 0;
            Check.due("most " + most + ", whole", due, () -> addedWord(0, false, most));
            Check.due("most " + most + ", safe", due, () -> addedWord(0, true, most));
        }
        Check.due("the least int", BAD, () -> addedWord(0, true, Integer.MIN_VALUE));
        Check.due("the greatest int", BAD, () -> addedWord(0, false, Integer.MAX_VALUE));
        for (int number = 1; number <= 9; number++) {
            int most = number;
            Check.due("gives 0", 0, () -> readBehind(most, 0));
            Check.due("gives one less than " + most, most - 1, () -> readBehind(most, most - 1));
            Check.due("gives " + most, most, () -> readBehind(most, most));
            Check.due("gives no more than " + most, java.util.NoSuchElementException.class,
                    () -> readBehind(most, most + 1));
        }
    }

    /** "At most 3 are numbered from 0", "if there are 3". */
    private static void atMostThreeHands() {
        Ticketdoor x = new Ticketdoor();
        for (int count = 0; count < 3; count++) {
            int hand = count;
            Check.due("no hand " + hand + " yet", INDEX, () -> x.countSteps(hand));
            Check.due("hand " + hand, hand, x::addHand);
            Check.due("hand " + hand + " without steps", 0, () -> x.countSteps(hand));
            Check.due("hand " + hand + " has ended", CANNOT, () -> x.act(hand, 0));
        }
        Check.due("a fourth", FULL, x::addHand);
        Check.due("a fifth", FULL, x::addHand);
        Check.due("no hand 3", INDEX, () -> x.countSteps(3));
        Check.due("no hand -1", INDEX, () -> x.countSteps(-1));
    }

    /** "each with steps, at most 16, numbered from 0", "if it has 16", for each kind. */
    private static void atMostSixteenSteps() {
        for (int index = 0; index < KINDS.length(); index++) {
            char kind = KINDS.charAt(index);
            Ticketdoor x = Check.withHands(Check.words(0), "", "", "");
            for (int count = 0; count < 16; count++) {
                int step = count;
                Check.due(kind + " is step " + step, step, () -> x.addStep(1, kind, 0, 0, 0));
            }
            Check.due(kind + " as step 16", FULL, () -> x.addStep(1, kind, 0, 0, 0));
            Check.due("sixteen " + kind, 16, () -> x.countSteps(1));
            Check.due("none of the hand before", 0, () -> x.countSteps(0));
            Check.due("none of the hand behind", 0, () -> x.countSteps(2));
        }
    }

    /** A full hand leaves room in the others, and each goes on with its own steps to its last one. */
    private static void eachHandHasItsOwnSteps() {
        Ticketdoor x = Check.hands("", "", "");
        for (int step = 0; step < 16; step++) {
            for (int hand = 0; hand < 3; hand++) {
                x.addStep(hand, 'k', hand, (step + 3 * hand) % 10, 0);
            }
        }
        for (int number = 0; number < 3; number++) {
            int hand = number;
            for (int step = 0; step < 16; step++) {
                int value = (step + 3 * hand) % 10;
                x.act(hand, 0);
                Check.due("hand " + hand + ", step " + step, value, () -> x.getRegister(hand, hand));
            }
            Check.due("hand " + hand + " has ended", CANNOT, () -> x.act(hand, 0));
            Check.due("hand " + hand + " behind its last step", 16, () -> x.getNext(hand));
        }
    }

    /** "three registers, 0 to 2, of 0 at first", "its next step, 0 at first". */
    private static void ofZeroAtFirst() {
        Ticketdoor x = Check.hands("o", "o", "o");
        for (int number = 0; number < 3; number++) {
            int hand = number;
            Check.due("no register -1", BAD, () -> x.getRegister(hand, -1));
            Check.due("register 0", 0, () -> x.getRegister(hand, 0));
            Check.due("register 1", 0, () -> x.getRegister(hand, 1));
            Check.due("register 2", 0, () -> x.getRegister(hand, 2));
            Check.due("no register 3", BAD, () -> x.getRegister(hand, 3));
            Check.due("next step", 0, () -> x.getNext(hand));
            Check.due("nothing buffered", 0, () -> x.countBuffered(hand));
            Check.due("not inside, not trying", false, () -> x.isInside(hand) || x.isTrying(hand));
        }
    }

    private static Object added(Ticketdoor x, char kind, int a, int b, int c) {
        int before = x.countSteps(0);
        return x.addStep(0, kind, a, b, c) - before;
    }

    /** "Adds a step, whose words must be there": with none, one, five and six words. */
    private static void whoseWordsMustBeThere() {
        for (int count = 0; count <= 6; count++) {
            Ticketdoor x = Check.withHands(Check.words(new int[count]), "");
            for (char kind : "rwsnf".toCharArray()) {
                for (int number = -1; number <= 7; number++) {
                    int word = number;
                    x.dropSteps(0);
                    Check.due(kind + " of word " + word + " of " + count, word < 0 || word >= count ? BAD : (Object) 0,
                            () -> added(x, kind, 0, word, 0));
                }
            }
        }
    }

    /** "a is a register", and so are b of '+', 'm', '=' and '<', and c of 'n'. */
    private static void registersZeroToTwo() {
        Ticketdoor x = Check.withHands(Check.words(0), "");
        for (int number : new int[] {Integer.MIN_VALUE, -1, 0, 1, 2, 3, Integer.MAX_VALUE}) {
            Object due = number < 0 || number > 2 ? BAD : (Object) 0;
            for (char kind : "rwk+m=<snfdz".toCharArray()) {
                x.dropSteps(0);
                Check.due(kind + " a " + number, due, () -> added(x, kind, number, 0, 0));
            }
            for (char kind : "+m=<".toCharArray()) {
                x.dropSteps(0);
                Check.due(kind + " b " + number, due, () -> added(x, kind, 0, number, 0));
            }
            x.dropSteps(0);
            Check.due("n c " + number, due, () -> added(x, 'n', 0, 0, number));
        }
    }

    /** "'k' makes a the number b". */
    private static void numbersZeroToNine() {
        for (int number = -2; number <= 11; number++) {
            int value = number;
            Ticketdoor x = Check.hands("");
            Check.due("k " + value, value < 0 || value > 9 ? BAD : (Object) value, () -> {
                x.addStep(0, 'k', 2, value, 0);
                x.act(0, 0);
                return x.getRegister(0, 2);
            });
        }
    }

    /** "`c`: the third number, as a step 0 to 16". */
    private static void stepsZeroToSixteen() {
        for (int number = -2; number <= 18; number++) {
            int step = number;
            for (char kind : "=<j".toCharArray()) {
                Ticketdoor x = Check.hands("");
                Check.due(kind + " to " + step, step < 0 || step > 16 ? BAD : (Object) 0, () -> added(x, kind, 0, 0, step));
            }
        }
        Ticketdoor x = Check.hands("");
        Check.due("the least int", BAD, () -> added(x, 'j', 0, 0, Integer.MIN_VALUE));
        Check.due("the greatest int", BAD, () -> added(x, '<', 0, 0, Integer.MAX_VALUE));
    }

    /** "those that are not told below being 0", "or one that is nothing is not 0". */
    private static void nothingIsZero() {
        Ticketdoor x = Check.withHands(Check.words(0, 0), "");
        for (int number : new int[] {Integer.MIN_VALUE, -1, 1, Integer.MAX_VALUE}) {
            for (char kind : "jytioh".toCharArray()) {
                Check.due(kind + " a " + number, BAD, () -> added(x, kind, number, 0, 0));
            }
            for (char kind : "jytiohdz".toCharArray()) {
                Check.due(kind + " b " + number, BAD, () -> added(x, kind, 0, number, 0));
            }
            for (char kind : "rwk+msfdzytioh".toCharArray()) {
                Check.due(kind + " c " + number, BAD, () -> added(x, kind, 0, 0, number));
            }
        }
        Check.due("none was added", 0, () -> x.countSteps(0));
    }

    /** "if there is no such kind": the signs beside each kind, in capitals and far off. */
    private static void kindsAlone() {
        Ticketdoor x = Check.withHands(Check.words(0), "");
        for (char kind : KINDS.toCharArray()) {
            for (int sign : new int[] {kind - 1, kind, kind + 1, kind - 32, kind + 128, kind + 256, kind + 65280}) {
                boolean is = KINDS.indexOf((char) sign) >= 0;
                Check.due("sign " + sign, is ? (Object) 0 : BAD, () -> added(x, (char) sign, 0, 0, 0));
                x.dropSteps(0);
            }
        }
        Check.due("the first sign", BAD, () -> added(x, (char) 0, 0, 0, 0));
        Check.due("the last sign", BAD, () -> added(x, Character.MAX_VALUE, 0, 0, 0));
    }

    /** "Takes all steps of a hand away. Returns how many it had.": none, one and sixteen. */
    private static void takesAllStepsAway() {
        for (int many : new int[] {0, 1, 15, 16}) {
            Ticketdoor x = Check.hands("i; ".repeat(many), "t");
            x.setDeath(0, 0);
            Check.due("had " + many, many, () -> x.dropSteps(0));
            Check.due("has none", 0, () -> x.countSteps(0));
            Check.due("has ended", CANNOT, () -> x.act(0, 0));
            Check.due("cannot die", CANNOT, () -> x.die(0));
            Check.due("had none", 0, () -> x.dropSteps(0));
            Check.due("one state of the other's step", 2, x::countStates);
            Check.due("its next number is 0", 0, () -> x.addStep(0, 'k', 0, 9, 0));
            Check.due("the new step is made", 1, () -> x.act(0, 0));
            Check.due("not an old one", false, () -> x.isInside(0));
            Check.due("9 now", 9, () -> x.getRegister(0, 0));
        }
    }

    /** "Takes all steps of a hand away": of that one alone, with how many that one had. */
    private static void takesStepsOfOneHandAlone() {
        int[] counts = {3, 16, 1};
        for (int number = 0; number < 3; number++) {
            int hand = number;
            Ticketdoor x = Check.hands("o; ".repeat(counts[0]), "o; ".repeat(counts[1]), "o; ".repeat(counts[2]));
            Check.due("hand " + hand + " had", counts[hand], () -> x.dropSteps(hand));
            for (int other = 0; other < 3; other++) {
                int at = other;
                Check.due("hand " + at + " has", at == hand ? 0 : counts[at], () -> x.countSteps(at));
                Check.due("hand " + at + " goes on", at == hand ? CANNOT : (Object) 1, () -> {
                    x.start();
                    return x.act(at, 0);
                });
            }
        }
    }

    /** "Returns whether they were." */
    private static void setsBuffers() {
        Ticketdoor x = Check.withHands(Check.words(0), "w 0 0");
        boolean[] told = {false, true, true, false, false, true};
        boolean were = false;
        for (boolean areOn : told) {
            Check.due("set to " + areOn, were, () -> x.setBuffers(areOn));
            x.act(0, 0);
            Check.due("buffered if on", areOn ? 1 : 0, () -> x.countBuffered(0));
            were = areOn;
        }
    }

    /** "with which it goes on then, 0 to 16, or -1 if it cannot", "Returns what was told before, -1 at first". */
    private static void deathsMinusOneToSixteen() {
        Ticketdoor x = Check.hands("o", "o", "o");
        int before = -1;
        for (int number : new int[] {-1, 0, 1, 15, 16, -1, 16, 0}) {
            int step = number;
            Check.due("told " + step, before, () -> x.setDeath(1, step));
            Check.due("dies with " + step, step < 0 ? CANNOT : (Object) step, () -> x.die(1));
            before = number;
        }
        for (int step : new int[] {Integer.MIN_VALUE, -3, -2, 17, 18, Integer.MAX_VALUE}) {
            Check.due("told " + step, BAD, () -> x.setDeath(1, step));
        }
        Check.due("0 is told still", 0, () -> x.setDeath(1, 5));
        Check.due("of the hand before -1", -1, () -> x.setDeath(0, 3));
        Check.due("of the hand behind -1", -1, () -> x.setDeath(2, 4));
        Check.due("its own", 5, () -> x.setDeath(1, -1));
    }

    private interface Telling {
        Object tell(Ticketdoor x);
    }

    private static void begins(String what, Telling telling) {
        Ticketdoor x = new Ticketdoor();
        x.addWord(4, false, 1);
        Check.withHands(x, "k 0 3; w 0 0; t; i; t; d 0; o", "");
        long first = x.checksum();
        Check.moves(x, "0 0 0 0 0 0");
        Check.that(what + ": a run", x.isInside(0) && x.isTrying(0) && x.getDecided(0) == 3 && x.getWord(0) == 3);
        telling.tell(x);
        Check.due(what + ": the word", 4, () -> x.getWord(0));
        Check.due(what + ": the register", 0, () -> x.getRegister(0, 0));
        Check.due(what + ": the next step", 0, () -> x.getNext(0));
        Check.due(what + ": neither inside nor trying", false, () -> x.isInside(0) || x.isTrying(0));
        Check.due(what + ": nothing decided", java.util.NoSuchElementException.class, () -> x.getDecided(0));
        Check.due(what + ": the first state", 0, x::getState);
        Check.due(what + ": no moves", 0, x::start);
        Check.that(what + ": as at first", what.startsWith("add") || x.checksum() == first);
    }

    /** "All that is told of words, hands, steps, buffers and deaths begins a run anew." */
    private static void beginsARunAnew() {
        begins("addWord", x -> x.addWord(0, true, 1));
        begins("addHand", Ticketdoor::addHand);
        begins("addStep of the hand", x -> x.addStep(0, 'h', 0, 0, 0));
        begins("addStep of the other", x -> x.addStep(1, 'h', 0, 0, 0));
        begins("dropSteps of the hand", x -> x.dropSteps(0));
        begins("dropSteps of none", x -> x.dropSteps(1));
        begins("setBuffers on", x -> x.setBuffers(true));
        begins("setBuffers off, as they are", x -> x.setBuffers(false));
        begins("setDeath of the hand", x -> x.setDeath(0, 0));
        begins("setDeath of the other, as it is", x -> x.setDeath(1, -1));
        Ticketdoor x = Check.withHands(Check.words(4), "w 0 0; o", "");
        x.setBuffers(true);
        x.setDeath(0, 0);
        Check.moves(x, "0 d0 0");
        x.setDeath(1, 0);
        Check.due("the buffer is empty anew", 0, () -> x.countBuffered(0));
        Check.due("who died can die anew", 0, () -> x.die(0));
    }
}
