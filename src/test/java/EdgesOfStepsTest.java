import java.util.NoSuchElementException;

/** The steps of the document's "Hands" and "Moves" at their edges: whole words, safe words, buffers and deaths. */
public final class EdgesOfStepsTest {
    private static final Class<?> CANNOT = UnsupportedOperationException.class;
    private static final Class<?> NONE = NoSuchElementException.class;

    public static void main(String[] args) {
        sums();
        greaterOnes();
        equals();
        lesses();
        jumps();
        ends();
        exchanges();
        swaps();
        increments();
        tosses();
        decides();
        triesAndGoes();
        writesOfSafeWords();
        readsWhileWritten();
        readsOfOtherWords();
        readsWhileTwoAreWritten();
        wholeWhileWritten();
        valuesAboveTheGreatest();
        roomOfTwo();
        newestOrWord();
        onlyWithAnEmptyBuffer();
        buffersOfEndedHands();
        safeWordsWithBuffers();
        diesOnce();
        diesUntilItsEnd();
        whatDeathTakes();
        deathWhileWriting();
        valuesBeforeADeath();
        stepsInAnyCase();
        writesBehindADeath();
        buffersOfSafeWords();
        Check.finish("EdgesOfStepsTest");
    }

    /** Registers 0 and 1 have these values, and then the step is made. */
    private static Ticketdoor made(int first, int second, String step) {
        return Check.moves(Check.hands("k 0 " + first + "; k 1 " + second + "; " + step), "0 0 0");
    }

    /** "'+' adds register b to a, modulo 10": all sums, those of 9, 10 and 18 among them. */
    private static void sums() {
        for (int value = 0; value < 100; value++) {
            int first = value / 10;
            int second = value % 10;
            int sum = first + second < 10 ? first + second : first + second - 10;
            Check.due(first + " + " + second, sum, () -> made(first, second, "+ 0 1").getRegister(0, 0));
            Check.due(first + " + " + second + " leaves b", second, () -> made(first, second, "+ 0 1").getRegister(0, 1));
        }
        for (int value = 0; value < 10; value++) {
            int first = value;
            Check.due("to itself", first < 5 ? 2 * first : 2 * first - 10, () -> made(first, 0, "+ 0 0").getRegister(0, 0));
        }
    }

    /** "'m' makes a the greater one of it and register b": less, alike and greater. */
    private static void greaterOnes() {
        for (int value = 0; value < 100; value++) {
            int first = value / 10;
            int second = value % 10;
            int most = first > second ? first : second;
            Check.due("the greater one", most, () -> made(first, second, "m 0 1").getRegister(0, 0));
            Check.due("b stays", second, () -> made(first, second, "m 0 1").getRegister(0, 1));
        }
    }

    /** "'=' goes on if a is register b": one less, alike, one more. */
    private static void equals() {
        for (int value = 0; value < 100; value++) {
            int first = value / 10;
            int second = value % 10;
            Check.due(first + " = " + second, first == second ? 9 : 3, () -> made(first, second, "= 0 1 9").getNext(0));
        }
        Check.due("itself", 0, () -> made(5, 6, "= 1 1 0").getNext(0));
    }

    /** "'<' if a is less than that". */
    private static void lesses() {
        for (int value = 0; value < 100; value++) {
            int first = value / 10;
            int second = value % 10;
            Check.due(first + " < " + second, first < second ? 9 : 3, () -> made(first, second, "< 0 1 9").getNext(0));
        }
        Check.due("not less than itself", 3, () -> made(5, 6, "< 1 1 0").getNext(0));
    }

    /** "'j' in any case", "if that is not there, it has ended": the last step, the one behind it, and the ones beyond. */
    private static void jumps() {
        for (int number = 0; number <= 16; number++) {
            int step = number;
            Ticketdoor x = Check.moves(Check.hands("j 0 0 " + step + "; o; o; i"), "0");
            Check.due("goes on with " + step, step, () -> x.getNext(0));
            Check.due("is there, or has ended", step < 4 ? (Object) 2 : CANNOT, () -> x.act(0, 0));
            Check.due("stays or goes on", step == 0 ? 0 : step < 4 ? step + 1 : step, () -> x.getNext(0));
            Check.due("the last step is made", step == 3, () -> x.isInside(0));
        }
        Ticketdoor full = Check.moves(Check.hands("j 0 0 15; " + "o; ".repeat(14) + "i"), "0");
        Check.due("the sixteenth step is there", 2, () -> full.act(0, 0));
        Check.due("behind it", 16, () -> full.getNext(0));
        Check.due("it has ended", CANNOT, () -> full.act(0, 0));
    }

    /** "'h' ends", "the step, as many as it has, or more, if it has ended, 16 behind 'h'". */
    private static void ends() {
        Check.due("'h' alone", 16, () -> Check.moves(Check.hands("h"), "0").getNext(0));
        Check.due("'h' first of many", 16, () -> Check.moves(Check.hands("h" + "; o".repeat(15)), "0").getNext(0));
        Check.due("as many as it has", 1, () -> Check.moves(Check.hands("o"), "0").getNext(0));
        Check.due("none", 0, () -> Check.hands("").getNext(0));
        Ticketdoor last = Check.hands("o; ".repeat(15) + "h");
        for (int count = 0; count < 16; count++) {
            int step = count;
            Check.due("step " + step, step, () -> last.getNext(0));
            Check.due("moves", step + 1, () -> last.act(0, 0));
        }
        Check.due("'h' as the sixteenth", 16, () -> last.getNext(0));
        Check.due("ended", CANNOT, () -> last.act(0, 0));
    }

    /** "'r' reads word b into a", "'w' writes a into word b", "'s' exchanges a and word b": 0 and 9, first and last word. */
    private static void exchanges() {
        for (int word : new int[] {0, 5}) {
            for (int value : new int[] {0, 9}) {
                int there = 9 - value;
                int[] values = {4, 4, 4, 4, 4, 4};
                values[word] = there;
                for (char kind : "rws".toCharArray()) {
                    Ticketdoor x = Check.withHands(Check.words(values), "k 2 " + value + "; " + kind + " 2 " + word);
                    Check.moves(x, "0 0");
                    Check.due(kind + " register", kind == 'w' ? value : there, () -> x.getRegister(0, 2));
                    Check.due(kind + " word", kind == 'r' ? there : value, () -> x.getWord(word));
                    Check.due(kind + " no other word", 4, () -> x.getWord(word == 0 ? 1 : 4));
                    Check.due(kind + " no other register", 0, () -> x.getRegister(0, 0) + x.getRegister(0, 1));
                }
            }
        }
    }

    /** "'n' makes word b register c, if it is a, and a 1 then, otherwise 0": the word one less, alike and one more. */
    private static void swaps() {
        for (int number = 0; number < 10; number++) {
            int there = number;
            for (int value = Math.max(0, there - 1); value <= Math.min(9, there + 1); value++) {
                boolean is = value == there;
                Ticketdoor x = Check.withHands(Check.words(4, there), "k 0 " + value + "; k 1 7; n 0 1 1; n 0 0 1");
                Check.moves(x, "0 0 0");
                Check.due("n " + value + " of " + there, is ? 1 : 0, () -> x.getRegister(0, 0));
                Check.due("the word", is ? 7 : there, () -> x.getWord(1));
                Check.due("register c stays", 7, () -> x.getRegister(0, 1));
                Check.due("the other word stays", 4, () -> x.getWord(0));
            }
            Ticketdoor own = Check.moves(Check.withHands(Check.words(there), "k 2 " + there + "; n 2 0 2"), "0 0");
            Check.due("c is a, as it was", there, () -> own.getWord(0));
            Check.due("and a 1 then", 1, () -> own.getRegister(0, 2));
        }
    }

    /** "'f' makes a word b, and word b 1 more, modulo 10": 8 to 9 and 9 to 0. */
    private static void increments() {
        for (int number = 0; number < 10; number++) {
            int there = number;
            Ticketdoor x = Check.moves(Check.withHands(Check.words(3, there), "k 1 5; f 1 1"), "0 0");
            Check.due("f of " + there, there, () -> x.getRegister(0, 1));
            Check.due("one more", there == 9 ? 0 : there + 1, () -> x.getWord(1));
            Check.due("the other word stays", 3, () -> x.getWord(0));
        }
    }

    private static Object tossed(int choice) {
        Ticketdoor x = Check.hands("k 1 5; z 1");
        x.act(0, 0);
        x.act(0, choice);
        return x.getRegister(0, 1);
    }

    /** "'z' makes a 0 or 1, by a toss". */
    private static void tosses() {
        Check.due("-1", NONE, () -> tossed(-1));
        Check.due("0", 0, () -> tossed(0));
        Check.due("1", 1, () -> tossed(1));
        Check.due("2", NONE, () -> tossed(2));
    }

    /** "'d' decides a, anew, too": each value, and another one then. */
    private static void decides() {
        for (int number = 0; number < 10; number++) {
            int value = number;
            Ticketdoor x = Check.hands("k 0 " + value + "; d 0; k 1 " + (9 - value) + "; d 1; d 2", "o");
            Check.moves(x, "0");
            Check.due("nothing yet", NONE, () -> x.getDecided(0));
            Check.moves(x, "0");
            Check.due("decided", value, () -> x.getDecided(0));
            Check.moves(x, "0");
            Check.due("as it was", value, () -> x.getDecided(0));
            Check.moves(x, "0");
            Check.due("anew", 9 - value, () -> x.getDecided(0));
            Check.moves(x, "0");
            Check.due("anew, 0", 0, () -> x.getDecided(0));
            Check.due("by this hand alone", NONE, () -> x.getDecided(1));
        }
    }

    /** "'t' begins to try, also inside; 'i' goes inside, and tries no more; 'o' goes out, trying or not as before." */
    private static void triesAndGoes() {
        String[] rows = {"o 0 0", "t 0 1", "t 0 1", "o 0 1", "i 1 0", "i 1 0", "t 1 1", "t 1 1", "o 0 1", "i 1 0", "o 0 0"};
        StringBuilder program = new StringBuilder();
        for (String row : rows) {
            program.append(row.charAt(0)).append("; ");
        }
        Ticketdoor x = Check.hands("o", program.toString(), "o");
        for (String row : rows) {
            x.act(1, 0);
            Check.due("inside behind " + row, row.charAt(2) == '1', () -> x.isInside(1));
            Check.due("trying behind " + row, row.charAt(4) == '1', () -> x.isTrying(1));
            Check.due("nobody else", false, () -> x.isInside(0) || x.isTrying(0) || x.isInside(2) || x.isTrying(2));
        }
    }

    private static Ticketdoor safe(int value, int most, String... programs) {
        Ticketdoor x = new Ticketdoor();
        x.addWord(value, true, most);
        x.addWord(value, false, most);
        return Check.withHands(x, programs);
    }

    /** "one move, but to write a safe word is two ... and has the value of the register as the second one is made". */
    private static void writesOfSafeWords() {
        Ticketdoor x = safe(3, 2, "k 0 9; w 0 0; w 0 1");
        Check.moves(x, "0");
        Check.due("the first one", 2, () -> x.act(0, 0));
        Check.due("the value as before", 3, () -> x.getWord(0));
        Check.due("the step as before", 1, () -> x.getNext(0));
        Check.due("no second choice", NONE, () -> x.act(0, 1));
        Check.due("the second one", 3, () -> x.act(0, 0));
        Check.due("written, above its greatest value", 9, () -> x.getWord(0));
        Check.due("the next step", 2, () -> x.getNext(0));
        Check.due("a whole word is one move", 4, () -> x.act(0, 0));
        Check.due("written at once", 9, () -> x.getWord(1));
        Check.due("behind it", 3, () -> x.getNext(0));
    }

    /** "A read of a safe word that another hand is writing gives each of 0 to its greatest value." */
    private static void readsWhileWritten() {
        Ticketdoor x = safe(9, 4, "w 0 0; o", "r 0 0; r 0 0; r 0 0; r 0 0", "w 0 0");
        Check.due("before it is written, one", NONE, () -> x.act(1, 1));
        Check.moves(x, "1");
        Check.due("its value", 9, () -> x.getRegister(1, 0));
        Check.moves(x, "0");
        Check.due("while it is written, none below", NONE, () -> x.act(1, -1));
        Check.due("none above", NONE, () -> x.act(1, 5));
        Check.moves(x, "1:4");
        Check.due("its greatest", 4, () -> x.getRegister(1, 0));
        Check.moves(x, "2 0");
        Check.due("the other one is writing still", NONE, () -> x.act(1, 5));
        Check.moves(x, "1:3");
        Check.due("one of them", 3, () -> x.getRegister(1, 0));
        Check.moves(x, "2");
        Check.due("written by both, one", NONE, () -> x.act(1, 1));
        Check.moves(x, "1");
        Check.due("its new value", 0, () -> x.getRegister(1, 0));
    }

    /** The one word that is written gives anything, the other safe ones give what they are. */
    private static void readsOfOtherWords() {
        for (int number = 0; number < 6; number++) {
            int written = number;
            Ticketdoor x = new Ticketdoor();
            for (int word = 0; word < 6; word++) {
                x.addWord(9 - word, true, word + 1);
            }
            Check.withHands(x, "w 0 " + written, "r 0 0; r 0 1; r 0 2; r 0 3; r 0 4; r 0 5");
            Check.moves(x, "0");
            for (int read = 0; read < 6; read++) {
                int word = read;
                int last = word == written ? word + 1 : 0;
                Check.due("word " + word + ", no more of it", NONE, () -> x.act(1, last + 1));
                Check.moves(x, "1:" + last);
                Check.due("word " + word + " while " + written + " is written", word == written ? last : 9 - word,
                        () -> x.getRegister(1, 0));
            }
        }
    }

    /** "that another hand is writing": two hands write two words, by any of the hands. */
    private static void readsWhileTwoAreWritten() {
        for (int number = 0; number < 3; number++) {
            int reader = number;
            String[] programs = {"w 0 0", "w 0 1", "r 0 0; r 1 1; r 2 2"};
            java.util.Collections.rotate(java.util.Arrays.asList(programs), reader + 1);
            Ticketdoor x = new Ticketdoor();
            x.addWord(7, true, 3);
            x.addWord(8, true, 4);
            x.addWord(9, true, 5);
            Check.withHands(x, programs);
            Check.moves(x, (reader + 1) % 3 + " " + (reader + 2) % 3);
            Check.due("no more than the first word's greatest", NONE, () -> x.act(reader, 4));
            Check.moves(x, reader + ":3");
            Check.due("the first word's greatest", 3, () -> x.getRegister(reader, 0));
            Check.due("no more than the second word's greatest", NONE, () -> x.act(reader, 5));
            Check.moves(x, reader + ":4");
            Check.due("the second word's greatest", 4, () -> x.getRegister(reader, 1));
            Check.due("the third word is not written", NONE, () -> x.act(reader, 1));
            Check.moves(x, reader + ":0");
            Check.due("its value", 9, () -> x.getRegister(reader, 2));
        }
    }

    /** A whole word is whole while a safe one is written; "Exchanges, 'n' and 'f' are whole on all words." */
    private static void wholeWhileWritten() {
        for (int number = 1; number <= 9; number++) {
            Ticketdoor x = safe(5, number, "w 0 0", "r 0 1; f 1 0; s 2 0; k 0 0; n 0 0 0; w 2 1");
            Check.moves(x, "0");
            for (int move = 0; move < 6; move++) {
                Check.due("one choice alone of step " + move, NONE, () -> x.act(1, 1));
                Check.moves(x, "1");
            }
            Check.due("f gave the value", 5, () -> x.getRegister(1, 1));
            Check.due("s gave one more", 6, () -> x.getRegister(1, 2));
            Check.due("n found the 0 of s", 1, () -> x.getRegister(1, 0));
            Check.due("w wrote the whole word", 6, () -> x.getWord(1));
        }
    }

    /** The greatest value is for reads of a word while it is written: its values are 0 to 9, however they come there. */
    private static void valuesAboveTheGreatest() {
        for (int number = 0; number < 10; number++) {
            int value = number;
            Ticketdoor x = safe(value, 1, "r 0 0; f 1 0; s 1 0; k 2 9; n 1 0 2; k 0 " + value + "; w 0 0; r 2 0");
            Check.moves(x, "0");
            Check.due("read", value, () -> x.getRegister(0, 0));
            Check.moves(x, "0");
            Check.due("f gave it", value, () -> x.getRegister(0, 1));
            Check.due("one more, modulo 10", value == 9 ? 0 : value + 1, () -> x.getWord(0));
            Check.moves(x, "0");
            Check.due("s wrote it", value, () -> x.getWord(0));
            Check.due("s gave one more", value == 9 ? 0 : value + 1, () -> x.getRegister(0, 1));
            Check.moves(x, "0 0");
            Check.due("n did not find it", 0, () -> x.getRegister(0, 1));
            Check.due("so that it stays", value, () -> x.getWord(0));
            Check.moves(x, "0 0 0 0");
            Check.due("written and read", value, () -> x.getRegister(0, 2));
            Ticketdoor found = safe(value, 1, "k 0 " + value + "; k 2 9; n 0 0 2");
            Check.moves(found, "0 0 0");
            Check.due("n found it", 1, () -> found.getRegister(0, 0));
            Check.due("and made it 9", 9, () -> found.getWord(0));
        }
    }

    private static Ticketdoor buffered(String... programs) {
        Ticketdoor x = Check.withHands(Check.words(1, 2, 3), programs);
        x.setBuffers(true);
        return x;
    }

    /** "the own buffer, of two at most, without room for which the step cannot be made". */
    private static void roomOfTwo() {
        Ticketdoor x = buffered("k 0 9; w 0 0; w 0 1; w 0 2", "w 0 0; w 0 1; w 0 2");
        Check.moves(x, "0");
        Check.due("none", 0, () -> x.countBuffered(0));
        Check.moves(x, "0");
        Check.due("one", 1, () -> x.countBuffered(0));
        Check.moves(x, "0");
        Check.due("two", 2, () -> x.countBuffered(0));
        Check.due("no third", CANNOT, () -> x.act(0, 0));
        Check.due("two still", 2, () -> x.countBuffered(0));
        Check.due("the step as before", 3, () -> x.getNext(0));
        Check.moves(x, "1 1");
        Check.due("another buffer has its own room", 2, () -> x.countBuffered(1));
        Check.due("and no more", CANNOT, () -> x.act(1, 0));
        Check.due("one goes", 1, () -> x.flush(0));
        Check.due("room for one", 7, () -> x.act(0, 0));
        Check.due("two again", 2, () -> x.countBuffered(0));
        Check.due("words 1 and 2 as before", 23, () -> 10 * x.getWord(1) + x.getWord(2));
        Check.due("the oldest went", 9, () -> x.getWord(0));
        Check.moves(x, "b0");
        Check.due("the second went", 93, () -> 10 * x.getWord(1) + x.getWord(2));
        Check.moves(x, "b0");
        Check.due("the third went", 99, () -> 10 * x.getWord(1) + x.getWord(2));
        Check.due("empty", NONE, () -> x.flush(0));
        Check.due("the other one's stay", 2, () -> x.countBuffered(1));
    }

    private static int readOf(String program, int moves) {
        Ticketdoor x = buffered(program + "; r 2 0", "k 0 8; w 0 0; o");
        Check.moves(x, "1 1 ");
        for (int move = 0; move < moves; move++) {
            x.act(0, 0);
        }
        x.act(0, 0);
        return x.getRegister(0, 2);
    }

    /** "a read gives what the own buffer has of the word, the newest, or else the word". */
    private static void newestOrWord() {
        Check.due("an empty buffer", 1, () -> readOf("o", 1));
        Check.due("one of the word", 5, () -> readOf("k 0 5; w 0 0", 2));
        Check.due("one of another word", 1, () -> readOf("k 0 5; w 0 1", 2));
        Check.due("two of the word, the newest", 6, () -> readOf("k 0 5; w 0 0; k 0 6; w 0 0", 4));
        Check.due("the older one of the word", 5, () -> readOf("k 0 5; w 0 0; k 0 6; w 0 1", 4));
        Check.due("the newer one of the word", 6, () -> readOf("k 0 5; w 0 1; k 0 6; w 0 0", 4));
        Check.due("none of two", 1, () -> readOf("k 0 5; w 0 1; k 0 6; w 0 2", 4));
        Check.due("a 0 of the buffer", 0, () -> readOf("k 0 5; w 0 0; k 0 0; w 0 0", 4));
        for (int number = 0; number < 3; number++) {
            int word = number;
            Ticketdoor each = buffered("k 0 5; w 0 " + (word + 1) % 3 + "; k 0 6; w 0 " + word + "; r 2 0; r 2 1; r 2 2");
            Check.moves(each, "0 0 0 0");
            for (int read = 0; read < 3; read++) {
                int due = read == word ? 6 : read == (word + 1) % 3 ? 5 : read + 1;
                Check.moves(each, "0");
                Check.due("word " + read + " of a buffer with word " + word, due, () -> each.getRegister(0, 2));
            }
        }
        Ticketdoor x = buffered("k 0 5; w 0 0; k 0 6; w 0 0; r 2 0; r 2 0", "k 1 7; s 1 0");
        Check.moves(x, "0 0 0 0 b0 0");
        Check.due("one is left of two", 6, () -> x.getRegister(0, 2));
        Check.moves(x, "b0 1 1 0");
        Check.due("none is left, the word", 7, () -> x.getRegister(0, 2));
    }

    /** "'s', 'n', 'f' and 'y' can be made only with the own buffer empty": none, one and two in it. */
    private static void onlyWithAnEmptyBuffer() {
        for (String kind : new String[] {"s 0 0", "n 0 0 0", "f 0 0", "y"}) {
            for (int number = 0; number <= 2; number++) {
                int many = number;
                Ticketdoor x = buffered("w 0 1; ".repeat(many) + kind, "w 0 1; w 0 1");
                Check.moves(x, "1 1 " + "0 ".repeat(many));
                Check.due(kind + " with " + many, many == 0 ? (Object) 3 : CANNOT, () -> x.act(0, 0));
                Check.moves(x, "b0 ".repeat(many));
                Check.due(kind + " once it is empty", many == 0 ? CANNOT : (Object) (2 * many + 3), () -> x.act(0, 0));
            }
            Check.due(kind + " without buffers", 2, () -> Check.withHands(Check.words(0, 0), "w 0 1; " + kind).act(0, 0) + 1);
        }
        for (String kind : new String[] {"r 0 0", "k 0 1", "+ 0 0", "m 0 0", "= 0 0 3", "< 0 0 3", "j 0 0 3", "t", "i", "o",
            "d 0", "z 0", "h"}) {
            Ticketdoor x = buffered("w 0 1; w 0 1; " + kind);
            Check.moves(x, "0 0");
            Check.due(kind + " with a full buffer", 3, () -> x.act(0, 0));
        }
    }

    /** "Another move of a hand, also of one that has ended, is that the oldest thing of its buffer goes to its word." */
    private static void buffersOfEndedHands() {
        for (String end : new String[] {"", "; h", "; j 0 0 16"}) {
            Ticketdoor x = buffered("k 0 7; w 0 0; k 0 8; w 0 1" + end);
            Check.moves(x, "0 0 0 0");
            if (!end.isEmpty()) {
                Check.moves(x, "0");
            }
            Check.due("ended", CANNOT, () -> x.act(0, 0));
            Check.due("one is left", 1, () -> x.flush(0));
            Check.due("word 0 alone", 72, () -> 10 * x.getWord(0) + x.getWord(1));
            Check.due("none is left", 0, () -> x.flush(0));
            Check.due("both words", 78, () -> 10 * x.getWord(0) + x.getWord(1));
            Check.due("empty", NONE, () -> x.flush(0));
            Check.due("one end alone, with an empty buffer", 1, x::countEnds);
            Check.due("the words of that end", true, () -> x.canEnd(0, 7) && x.canEnd(1, 8));
            Check.due("no end before", false, () -> x.canEnd(0, 1) || x.canEnd(1, 2));
        }
    }

    /** "With buffers on, all words are whole". */
    private static void safeWordsWithBuffers() {
        Ticketdoor x = safe(3, 9, "k 0 7; w 0 0; o", "r 1 0; r 1 0; r 1 0");
        x.setBuffers(true);
        Check.moves(x, "0");
        Check.due("one move", 2, () -> x.act(0, 0));
        Check.due("the next step", 2, () -> x.getNext(0));
        Check.due("one choice of a read", NONE, () -> x.act(1, 1));
        Check.moves(x, "1");
        Check.due("the word", 3, () -> x.getRegister(1, 1));
        Check.moves(x, "b0");
        Check.due("one choice still", NONE, () -> x.act(1, 1));
        Check.moves(x, "1");
        Check.due("what went to it", 7, () -> x.getRegister(1, 1));
        Check.due("isSound", true, x::isSound);
    }

    /** "A hand that can die has, as long as it has not ended, one more move, once". */
    private static void diesOnce() {
        Ticketdoor x = Check.hands("o; o; o; o", "o; o");
        Check.due("not told", CANNOT, () -> x.die(0));
        x.setDeath(0, 1);
        Check.due("once", 1, () -> x.die(0));
        Check.due("not twice", CANNOT, () -> x.die(0));
        Check.moves(x, "0 0");
        Check.due("nor later", CANNOT, () -> x.die(0));
        Check.due("nor the other one", CANNOT, () -> x.die(1));
        x.start();
        Check.due("once in each run", 1, () -> x.die(0));
        x.setDeath(1, 0);
        Check.moves(x, "d0 d1");
        Check.due("each for itself", CANNOT, () -> x.die(0));
        Check.due("and once", CANNOT, () -> x.die(1));
        x.setDeath(0, -1);
        Check.due("no more", CANNOT, () -> x.die(0));
        Check.due("the other one still", 0, () -> x.die(1));
    }

    /** "as long as it has not ended": at its last step, and behind it; and 0 to 16 as told. */
    private static void diesUntilItsEnd() {
        Ticketdoor x = Check.hands("o; o");
        x.setDeath(0, 1);
        Check.moves(x, "0");
        Check.due("before its last step", 1, () -> x.die(0));
        x.start();
        Check.moves(x, "0 0");
        Check.due("behind its last step", CANNOT, () -> x.die(0));
        for (int number = 0; number <= 16; number++) {
            int step = number;
            Ticketdoor y = Check.hands("o; o; o; o");
            y.setDeath(0, step);
            Check.due("dies", step, () -> y.die(0));
            Check.due("next step", step, () -> y.getNext(0));
            Check.due("goes on, or has ended", step < 4 ? (Object) 2 : CANNOT, () -> y.act(0, 0));
        }
        Ticketdoor none = Check.hands("");
        none.setDeath(0, 0);
        Check.due("a hand without steps", CANNOT, () -> none.die(0));
        Check.due("one state", 1, none::countStates);
    }

    /** "its registers become 0, its buffer is lost, ... it is neither inside nor trying, ... what it decided stays". */
    private static void whatDeathTakes() {
        Ticketdoor x = buffered("k 0 9; k 1 9; k 2 9; d 1; i; t; w 0 0; w 0 1; o", "k 0 8; k 1 8; k 2 8; d 2; i; t; w 0 2");
        x.setDeath(0, 8);
        Check.moves(x, "0 0 0 0 0 0 0 0 1 1 1 1 1 1 1");
        Check.due("dies", 8, () -> x.die(0));
        for (int number = 0; number < 3; number++) {
            int register = number;
            Check.due("register " + register, 0, () -> x.getRegister(0, register));
            Check.due("the other one's register " + register, 8, () -> x.getRegister(1, register));
        }
        Check.due("its buffer", 0, () -> x.countBuffered(0));
        Check.due("is lost", NONE, () -> x.flush(0));
        Check.due("words as before", 12, () -> 10 * x.getWord(0) + x.getWord(1));
        Check.due("not inside", false, () -> x.isInside(0));
        Check.due("not trying", false, () -> x.isTrying(0));
        Check.due("what it decided", 9, () -> x.getDecided(0));
        Check.due("the other one's buffer", 1, () -> x.countBuffered(1));
        Check.due("the other one", true, () -> x.isInside(1) && x.isTrying(1) && x.getDecided(1) == 8);
        Check.due("the other one's next step", 7, () -> x.getNext(1));
        Ticketdoor nothing = Check.hands("k 0 1; o");
        nothing.setDeath(0, 0);
        Check.moves(nothing, "0 d0");
        Check.due("nothing decided stays so", NONE, () -> nothing.getDecided(0));
    }

    /** "what it was writing has the value as before", and is written no more. */
    private static void deathWhileWriting() {
        Ticketdoor x = safe(6, 9, "k 0 2; w 0 0; o", "r 0 0; r 0 0", "w 0 0");
        x.setDeath(0, 1);
        Check.moves(x, "0 0 d0");
        Check.due("the value as before", 6, () -> x.getWord(0));
        Check.due("it is not writing, also at the same step", NONE, () -> x.act(1, 1));
        Check.moves(x, "1");
        Check.due("read whole", 6, () -> x.getRegister(1, 0));
        Check.moves(x, "0");
        Check.due("it writes anew, by two moves", 1, () -> x.getNext(0));
        Check.moves(x, "0");
        Check.due("the register is 0 now", 0, () -> x.getWord(0));
        x.start();
        Check.moves(x, "0 0 2 d0");
        Check.moves(x, "1:9");
        Check.due("another one is writing still", 9, () -> x.getRegister(1, 0));
    }

    /** "what it was writing has the value as before": not that of the first state, nor that of the register, nor 0. */
    private static void valuesBeforeADeath() {
        Ticketdoor own = safe(6, 9, "k 0 2; w 0 0; k 0 4; w 0 0; w 0 1; o");
        own.setDeath(0, 5);
        Check.moves(own, "0 0 0 0 0 d0");
        Check.due("what it wrote before", 2, () -> own.getWord(0));
        Check.due("the other word", 6, () -> own.getWord(1));
        Check.due("among the states that were found", true, () -> own.getState() > 0);
        Ticketdoor other = safe(6, 9, "k 0 2; w 0 0; w 0 0", "k 0 3; w 0 0; s 1 0");
        other.setDeath(0, 2);
        Check.moves(other, "1 1 1 0 0 d0");
        Check.due("what another one wrote before", 3, () -> other.getWord(0));
        other.start();
        Check.moves(other, "0 0 1 1 1 d0");
        Check.due("what another one wrote meanwhile", 3, () -> other.getWord(0));
        other.start();
        Check.moves(other, "0 0 1 1 1 1 d0");
        Check.due("what another one exchanged meanwhile", 0, () -> other.getWord(0));
        Check.due("the value that was exchanged", 3, () -> other.getRegister(1, 1));
        other.start();
        Check.moves(other, "0 0 0 0 d0");
        Check.due("what it wrote itself, at the same word", 2, () -> other.getWord(0));
        for (int number = 0; number < 10; number++) {
            int value = number;
            Ticketdoor each = safe(value, 1, "k 0 " + (9 - value) + "; w 0 0");
            each.setDeath(0, 16);
            Check.moves(each, "0 0 d0");
            Check.due("each value", value, () -> each.getWord(0));
            Check.due("an end with the value as before", true, () -> each.canEnd(0, value) && each.canEnd(0, 9 - value));
            Check.due("and none with another", 2, () -> {
                int ends = 0;
                for (int at = 0; at < 10; at++) {
                    ends += each.canEnd(0, at) ? 1 : 0;
                }
                return ends;
            });
        }
    }

    /** What a hand is, by programs of three steps that leave its registers at 0: inside, trying, or has decided. */
    private static final String[] CASES = {"t; k 2 0; k 2 0", "i; k 2 0; k 2 0", "i; t; k 2 0", "t; i; o", "t; o; k 2 0",
        "d 0; k 2 0; k 2 0", "i; d 1; t"};
    private static final String NO_CASE = "k 2 0; k 2 0; k 2 0";
    private static final String[] ALL_STEPS = {"r 2 0", "r 2 1", "r 2 2", "w 0 0", "w 0 1", "w 0 2", "k 2 9", "+ 0 1", "m 0 1",
        "= 0 1 9", "= 0 2 9", "< 0 1 9", "< 1 0 9", "j 0 0 9", "s 0 0", "s 0 1", "s 0 2", "n 0 0 1", "n 1 0 0", "n 0 1 1",
        "n 0 2 1", "f 2 0", "f 2 1", "f 2 2", "y", "t", "i", "o", "d 1", "z 2", "h"};

    /** Hand 1 is writing word 1 if buffers are off; hand 0's registers are 3, 4 and 0, and its next step is the sixth. */
    private static Ticketdoor before(String program, String step, boolean hasBuffers, boolean hasDied) {
        Ticketdoor x = new Ticketdoor();
        x.addWord(3, false, 1);
        x.addWord(8, true, 5);
        x.addWord(7, true, 2);
        Check.withHands(x, program + "; k 0 3; k 1 4; " + step, "w 0 1");
        x.setBuffers(hasBuffers);
        x.setDeath(0, 3);
        return Check.moves(x, "1 " + (hasDied ? "d0" : "0 0 0") + " 0 0");
    }

    private static String behind(Ticketdoor x, String step, int choice) {
        try {
            x.act(0, choice);
        } catch (NoSuchElementException e) {
            return "no choice";
        }
        StringBuilder all = new StringBuilder().append(x.getNext(0)).append(' ').append(x.countBuffered(0)).append(' ');
        for (int index = 0; index < 3; index++) {
            all.append(x.getRegister(0, index)).append(' ').append(x.getWord(index)).append(' ');
        }
        all.append(x.getNext(1)).append(' ').append(x.countBuffered(1));
        if (step.equals("t")) {
            all.append(x.isTrying(0));
        } else if (step.equals("i")) {
            all.append(x.isInside(0)).append(x.isTrying(0));
        } else if (step.equals("o")) {
            all.append(x.isInside(0));
        } else if (step.startsWith("d")) {
            all.append(x.getDecided(0));
        }
        return all.toString();
    }

    /** A step is the same whether the hand is inside, trying, has decided or has died once, and so is a second one. */
    private static void stepsInAnyCase() {
        for (String step : ALL_STEPS) {
            for (boolean hasBuffers : new boolean[] {false, true}) {
                for (int number = 0; number <= 6; number++) {
                    int choice = number;
                    String due = behind(before(NO_CASE, step, hasBuffers, false), step, choice);
                    Check.due(step + " of one that died", due,
                            () -> behind(before(NO_CASE, step, hasBuffers, true), step, choice));
                    for (String program : CASES) {
                        Check.due(step + " behind " + program, due,
                                () -> behind(before(program, step, hasBuffers, false), step, choice));
                    }
                }
            }
        }
        Check.due("a torn read of them", 6, () -> choices("r 2 1", false));
        Check.due("a read of another safe word", 1, () -> choices("r 2 2", false));
        Check.due("a read with buffers", 1, () -> choices("r 2 1", true));
        Check.due("a toss", 2, () -> choices("z 2", true));
    }

    private static int choices(String step, boolean hasBuffers) {
        int many = 0;
        while (!behind(before(NO_CASE, step, hasBuffers, false), step, many).equals("no choice")) {
            many++;
        }
        return many;
    }

    /** A hand that died writes a safe word by two moves, and its writes are held back, as before. */
    private static void writesBehindADeath() {
        Ticketdoor x = safe(6, 1, "k 0 2; w 0 0; o");
        x.setDeath(0, 0);
        Check.moves(x, "0 d0 0 0");
        Check.due("the first move", 1, () -> x.getNext(0));
        Check.due("the value as before", 6, () -> x.getWord(0));
        Check.moves(x, "0");
        Check.due("the second move", 2, () -> x.getWord(0));
        x.setBuffers(true);
        Check.moves(x, "0 d0 0 0");
        Check.due("held back", 1, () -> x.countBuffered(0));
        Check.due("and not written", 6, () -> x.getWord(0));
        Check.due("it goes to its word", 0, () -> x.flush(0));
        Check.due("written", 2, () -> x.getWord(0));
    }

    /** What goes from a buffer to a safe word is whole, and so is what a read gives of it, above its greatest value, too. */
    private static void buffersOfSafeWords() {
        for (int number = 0; number < 10; number++) {
            int value = number;
            Ticketdoor x = safe(5, 1, "k 0 " + value + "; w 0 0; r 1 0; o", "r 1 0");
            x.setBuffers(true);
            Check.moves(x, "0 0 0");
            Check.due("read from the own buffer", value, () -> x.getRegister(0, 1));
            Check.moves(x, "b0 1");
            Check.due("in its word", value, () -> x.getWord(0));
            Check.due("read from there", value, () -> x.getRegister(1, 1));
        }
    }
}
