import java.math.BigInteger;
import java.util.NoSuchElementException;

/** Promises 37 to 44 at their edges: histories and figures. */
public final class EdgesOfHistoriesTest {
    private static final Class<?> BAD = IllegalArgumentException.class;
    private static final Class<?> FULL = IllegalStateException.class;
    private static final Class<?> NONE = NoSuchElementException.class;
    private static final Class<?> MANY = ArithmeticException.class;

    public static void main(String[] args) {
        atMostSixCalls();
        kindsOfCalls();
        valuesOfCalls();
        timesOfCalls();
        dropsAllCalls();
        goesAheadIfItEndsBefore();
        wordIsZeroAtFirst();
        readsTheLastWrite();
        queueIsEmptyAtFirst();
        leavesTheFirstOne();
        wordAndQueueApart();
        countsAllOrders();
        firstByRisingNumbers();
        placesFromZero();
        sharesAsFloats();
        meansAsDoubles();
        sumsWithoutCarry();
        soundInAllCases();
        Check.finish("EdgesOfHistoriesTest");
    }

    /** Calls told as "w3 0 5", each with kind and value, beginning and end. */
    private static Ticketdoor calls(String... told) {
        Ticketdoor x = new Ticketdoor();
        for (String call : told) {
            add(x, call);
        }
        return x;
    }

    private static int add(Ticketdoor x, String call) {
        String[] parts = call.split(" ");
        return x.addCall(call.charAt(0), parts[0].charAt(1) - '0', Integer.parseInt(parts[1]), Integer.parseInt(parts[2]));
    }

    private static void orders(int due, String... told) {
        Check.due(String.join(", ", told), due, () -> calls(told).countOrders());
    }

    /** "At most 6 calls are numbered from 0", "Returns its number", "if there are 6". */
    private static void atMostSixCalls() {
        for (char kind : "wred".toCharArray()) {
            Ticketdoor x = new Ticketdoor();
            for (int count = 0; count < 6; count++) {
                int call = count;
                Check.due(kind + " is call " + call, call, () -> x.addCall(kind, 0, 0, 9));
            }
            Check.due(kind + " as call 6", FULL, () -> x.addCall(kind, 0, 0, 9));
            Check.due("another kind as call 6", FULL, () -> x.addCall('w', 9, 998, 999));
            Check.due("six", 6, x::dropCalls);
        }
    }

    /** "'w', 'r', 'e' or 'd'": all signs. */
    private static void kindsOfCalls() {
        Ticketdoor x = new Ticketdoor();
        int calls = 0;
        for (int sign = 0; sign <= Character.MAX_VALUE; sign++) {
            char kind = (char) sign;
            if (calls > 400) {
                x = new Ticketdoor();
                calls = 0;
            }
            Ticketdoor at = x;
            boolean is = "wred".indexOf(kind) >= 0;
            boolean isTaken;
            try {
                isTaken = at.addCall(kind, 0, 0, 1) == 0 && at.dropCalls() == 1;
            } catch (IllegalArgumentException e) {
                isTaken = false;
            }
            if (isTaken != is) {
                Check.that("sign " + sign, false);
            }
            calls += 2;
        }
        Check.due("none is left", 0, x::dropCalls);
    }

    /** "`value`: 0 to 9". */
    private static void valuesOfCalls() {
        for (char kind : "wred".toCharArray()) {
            for (int value : new int[] {Integer.MIN_VALUE, -2, -1, 0, 1, 8, 9, 10, 11, Integer.MAX_VALUE}) {
                Check.due(kind + " of " + value, value < 0 || value > 9 ? BAD : (Object) 0,
                        () -> new Ticketdoor().addCall(kind, value, 0, 1));
            }
        }
        for (int number = 0; number < 10; number++) {
            String value = "" + number;
            orders(1, "w" + value + " 0 1", "r" + value + " 2 3");
            orders(1, "e" + value + " 0 1", "d" + value + " 2 3");
        }
    }

    /** "`begin`: 0 to 999", "`end`: 0 to 999, above the beginning". */
    private static void timesOfCalls() {
        int[] times = {Integer.MIN_VALUE, -1, 0, 1, 2, 499, 500, 501, 998, 999, 1000, 1001, Integer.MAX_VALUE};
        for (int begin : times) {
            for (int end : times) {
                boolean are = begin >= 0 && end <= 999 && begin < end;
                Check.due(begin + " to " + end, are ? (Object) 0 : BAD, () -> new Ticketdoor().addCall('w', 0, begin, end));
            }
        }
    }

    /** "Takes all calls away. Returns how many there were.": none to six. */
    private static void dropsAllCalls() {
        Ticketdoor x = new Ticketdoor();
        for (int count = 0; count <= 6; count++) {
            int many = count;
            for (int call = 0; call < many; call++) {
                x.addCall('w', call, 2 * call, 2 * call + 1);
            }
            Check.due("one order", 1, x::countOrders);
            Check.due(many + " calls", many, x::dropCalls);
            Check.due("one order without calls", 1, x::countOrders);
            Check.due("no place", NONE, () -> x.orderAt(0));
            Check.due("none", 0, x::dropCalls);
        }
        add(x, "r1 0 1");
        Check.due("none fits", 0, x::countOrders);
        x.dropCalls();
        Check.due("one fits again", 1, x::countOrders);
        add(x, "w1 5 6");
        add(x, "w2 0 1");
        Check.due("what went ahead of the old calls is gone", 1, () -> x.orderAt(0));
    }

    /** "the one goes ahead if it ends before the other one begins": before, at the same time, behind. */
    private static void goesAheadIfItEndsBefore() {
        orders(1, "w1 0 4", "w2 5 9");
        orders(2, "w1 0 5", "w2 5 9");
        orders(2, "w1 0 6", "w2 5 9");
        orders(1, "w2 5 9", "w1 0 4");
        orders(2, "w2 5 9", "w1 0 5");
        orders(2, "w2 5 9", "w1 0 6");
        orders(2, "w1 0 999", "w2 1 2");
        orders(1, "w1 0 1", "w2 998 999");
        orders(2, "w1 0 1", "w2 0 1");
        orders(3, "w1 0 4", "w2 5 9", "w3 0 9");
        orders(3, "w1 0 4", "w2 4 8", "w3 5 9");
        orders(3, "w1 0 999", "w2 500 501", "w3 0 1");
        orders(3, "w1 500 501", "w2 0 999", "w3 0 1");
        orders(1, "w1 8 9", "w2 5 6", "w3 2 3");
        orders(2, "w1 2 3", "w2 8 9", "w3 6 7", "w4 6 7");
    }

    /** "one word, 0 at first". */
    private static void wordIsZeroAtFirst() {
        orders(1, "r0 0 1");
        for (int value = 1; value < 10; value++) {
            orders(0, "r" + value + " 0 1");
        }
        orders(1, "w5 0 9", "r0 0 9");
        orders(0, "w5 0 1", "r0 2 3");
        orders(6, "w0 0 9", "r0 0 9", "r0 0 9", "w5 10 11", "r5 12 13", "w0 14 15");
    }

    /** "a read has the value of the last write". */
    private static void readsTheLastWrite() {
        orders(1, "w1 0 1", "r1 2 3");
        orders(0, "w1 0 1", "r2 2 3");
        orders(0, "w1 0 1", "w2 2 3", "r1 4 5");
        orders(1, "w1 0 1", "w2 2 3", "r2 4 5");
        orders(1, "w1 0 3", "w2 2 3", "r1 4 5");
        orders(1, "w1 0 9", "r1 0 9", "r0 0 9");
        orders(2, "w1 0 9", "r1 0 9", "r1 0 9");
        orders(0, "w1 0 9", "r1 0 4", "r0 5 9");
        orders(1, "w1 0 9", "r0 0 4", "r1 5 9");
        orders(1, "r1 0 1", "w1 1 2");
        orders(0, "r1 0 1", "w1 2 3");
    }

    /** "a queue, empty at first". */
    private static void queueIsEmptyAtFirst() {
        for (int value = 0; value < 10; value++) {
            orders(0, "d" + value + " 0 9");
            orders(1, "d" + value + " 0 9", "e" + value + " 0 9");
        }
        orders(0, "e1 0 1", "d1 2 3", "d1 4 5");
        orders(0, "d0 0 1", "e0 2 3");
        orders(1, "d0 0 1", "e0 1 2");
    }

    /** "what leaves the queue is its first one": of one, two, three, and once it was empty. */
    private static void leavesTheFirstOne() {
        orders(1, "e1 0 1", "d1 2 3");
        orders(0, "e1 0 1", "d2 2 3");
        orders(1, "e1 0 1", "e2 2 3", "d1 4 5");
        orders(0, "e1 0 1", "e2 2 3", "d2 4 5");
        orders(1, "e1 0 1", "e2 2 3", "d1 4 5", "d2 6 7");
        orders(0, "e1 0 1", "e2 2 3", "d2 4 5", "d1 6 7");
        orders(1, "e1 0 3", "e2 2 3", "d2 4 5", "d1 6 7");
        orders(1, "e9 0 1", "e0 2 3", "e9 4 5", "d9 6 7", "d0 8 9", "d9 10 11");
        orders(0, "e9 0 1", "e0 2 3", "e8 4 5", "d9 6 7", "d8 8 9", "d0 10 11");
        orders(1, "e7 0 1", "d7 2 3", "e8 4 5", "e9 6 7", "d8 8 9", "d9 10 11");
        orders(4, "e1 0 1", "e1 0 1", "d1 4 9", "d1 4 9");
        orders(1, "e1 0 1", "e2 2 3", "e3 4 5", "e4 6 7", "e5 8 9", "d1 10 11");
        orders(0, "e1 0 1", "e2 2 3", "e3 4 5", "e4 6 7", "e5 8 9", "d5 10 11");
        orders(1, "e1 0 1", "e2 2 3", "e3 4 5", "e4 6 7", "e5 8 9", "e6 10 11");
    }

    /** The word is no thing of the queue, and the other way. */
    private static void wordAndQueueApart() {
        orders(2, "w1 0 9", "e1 0 9");
        orders(0, "w1 0 1", "d1 2 3");
        orders(0, "e1 0 1", "r1 2 3");
        orders(1, "e1 0 1", "r0 2 3");
        orders(1, "w9 0 1", "e3 2 3", "r9 4 5", "d3 6 7", "r9 8 9", "e9 10 11");
        orders(1, "e9 0 1", "w3 2 3", "d9 4 5", "r3 6 7");
    }

    /** "Returns how many, 1 without calls.": all orders of one to six calls. */
    private static void countsAllOrders() {
        int due = 1;
        Ticketdoor x = new Ticketdoor();
        Check.due("without calls", 1, x::countOrders);
        for (int many = 1; many <= 6; many++) {
            due = due * many;
            int all = due;
            x.addCall(many % 2 == 0 ? 'w' : 'e', many, 0, 9);
            Check.due(many + " calls", all, x::countOrders);
        }
        orders(0, "r1 0 1", "w2 0 1");
    }

    private static void first(String due, String... told) {
        Ticketdoor x = calls(told);
        for (int index = 0; index < told.length; index++) {
            int at = index;
            Check.due(String.join(", ", told) + " at " + at, due.charAt(at) - '0', () -> x.orderAt(at));
        }
    }

    /** "Orders are told call by call, by rising numbers." */
    private static void firstByRisingNumbers() {
        first("0", "w1 0 1");
        first("01", "w1 0 9", "w2 0 9");
        first("10", "w1 5 9", "w2 0 4");
        first("01", "w1 4 9", "w2 0 4");
        first("012345", "w1 0 9", "e2 0 9", "w3 0 9", "e4 0 9", "w5 0 9", "e6 0 9");
        first("543210", "w1 20 21", "e2 16 17", "w3 12 13", "e4 8 9", "w5 4 5", "e6 0 1");
        first("021", "w1 0 9", "r2 0 9", "w2 0 9");
        first("102", "r1 0 9", "w1 0 9", "w1 0 9");
        first("1032", "d1 0 9", "e1 0 9", "d2 0 9", "e2 0 9");
        first("1203", "r3 0 9", "w0 0 9", "w3 0 9", "e3 0 9");
    }

    /** "`index`: the place, from 0", "if there is no order, or no such place". */
    private static void placesFromZero() {
        for (int count = 0; count <= 6; count++) {
            Ticketdoor x = new Ticketdoor();
            for (int call = 0; call < count; call++) {
                x.addCall('w', call, 0, 9);
            }
            for (int index : new int[] {Integer.MIN_VALUE, -1, 0, 1, 2, 3, 4, 5, 6, 7, Integer.MAX_VALUE}) {
                boolean is = index >= 0 && index < count;
                Check.due("place " + index + " of " + count, is ? (Object) index : NONE, () -> x.orderAt(index));
            }
        }
        Ticketdoor none = calls("w1 0 9", "r2 0 9");
        Check.due("no order, no first place", NONE, () -> none.orderAt(0));
        Check.due("nor the last one", NONE, () -> none.orderAt(1));
        add(none, "w2 0 9");
        Check.due("an order now", 0, () -> none.orderAt(0));
        add(none, "r3 0 9");
        Check.due("and none any more", NONE, () -> none.orderAt(0));
    }

    /** "their number divided by that of all, both converted to float": none, some, thirds, all but one of many. */
    private static void sharesAsFloats() {
        Check.due("none", 0.0f, () -> Check.hands("t; o").insideShare());
        Check.due("one of three", 1.0f / 3.0f, () -> Check.hands("t; i").insideShare());
        Check.due("two of three", 2.0f / 3.0f, () -> Check.hands("i; t").insideShare());
        Check.due("as a float alone", (double) (2.0f / 3.0f), () -> (double) Check.hands("i; t").insideShare());
        Check.due("fifteen of sixteen", 0.9375f, () -> Check.hands("i; " + "t; ".repeat(14)).insideShare());
        Check.due("some of a thousand", 900.0f / 1000.0f,
                () -> Check.hands("i; " + "t; ".repeat(8), "o; ".repeat(9), "o; ".repeat(9)).insideShare());
        Check.due("some hand, not each", 7.0f / 8.0f, () -> Check.hands("i", "i", "i").insideShare());
        Check.due("too many", MANY, () -> Check.hands("i; " + "t; ".repeat(9), "o; ".repeat(9), "o; ".repeat(9)).insideShare());
    }

    /** "the sum divided by how many states there are, both converted to double". */
    private static void meansAsDoubles() {
        Check.due("none", 0.0, () -> Check.hands("").meanMoves());
        Check.due("two thirds", 2.0 / 3.0, () -> Check.hands("t; o").meanMoves());
        Check.due("one", 1.0, () -> Check.hands("j 0 0 0").meanMoves());
        Check.due("three, above one", 3.0, () -> Check.hands("j 0 0 0", "j 0 0 0", "j 0 0 0").meanMoves());
        Check.due("of a thousand", 2700.0 / 1000.0,
                () -> Check.hands("o; ".repeat(9), "o; ".repeat(9), "o; ".repeat(9)).meanMoves());
        Check.due("too many", MANY, () -> Check.hands("o; ".repeat(9), "o; ".repeat(9), "o; ".repeat(10)).meanMoves());
        Ticketdoor dies = Check.hands("o; o");
        dies.setDeath(0, 2);
        Check.due("its death is a move, too", (2 + 2 + 0 + 0) / 4.0, dies::meanMoves);
        Ticketdoor writes = Check.withHands(Check.words(0), "w 0 0; o");
        writes.setBuffers(true);
        Check.due("and its buffer's", (1 + 2 + 1 + 1 + 0) / 5.0, writes::meanMoves);
        Check.due("and each of a toss", (2 + 1 + 1 + 0 + 0) / 5.0, () -> Check.hands("z 0; o").meanMoves());
        Check.due("and those to like states", 2.0, () -> Check.hands("j 0 0 0", "j 0 0 0").meanMoves());
    }

    private static long sum(long... numbers) {
        BigInteger sum = BigInteger.valueOf(7);
        for (long number : numbers) {
            sum = sum.multiply(BigInteger.valueOf(31)).add(BigInteger.valueOf(number));
        }
        return sum.longValue();
    }

    /** "31 times itself plus ...": by the words, hands and registers that are there, and round beyond 64 bits. */
    private static void sumsWithoutCarry() {
        Check.due("nothing", 217L, () -> new Ticketdoor().checksum());
        Check.due("a word", 7L * 31 * 31 + 9 * 31, () -> Check.words(9).checksum());
        Check.due("six words", sum(9, 8, 7, 6, 5, 4, 0), () -> Check.words(9, 8, 7, 6, 5, 4).checksum());
        Check.due("a hand", sum(0, 0, 0, 0, 0), () -> Check.hands("o").checksum());
        Ticketdoor x = Check.withHands(Check.words(9, 9, 9, 9, 9, 9), "k 0 9; k 1 8; k 2 7; j 0 0 16", "k 0 6; k 1 5; k 2 4; h",
                "k 0 3; k 1 2; k 2 1; t; i; d 0; o");
        Check.moves(x, "0 0 0 0 1 1 1 1 2 2 2");
        Check.due("all, far beyond 64 bits", sum(9, 9, 9, 9, 9, 9, 16, 9, 8, 7, 16, 6, 5, 4, 3, 3, 2, 1, 11), x::checksum);
        Check.moves(x, "2 2 2");
        Check.due("trying, inside and decided are not in it", sum(9, 9, 9, 9, 9, 9, 16, 9, 8, 7, 16, 6, 5, 4, 6, 3, 2, 1, 14),
                x::checksum);
        Ticketdoor y = Check.withHands(Check.words(4), "k 0 5; w 0 0");
        y.setBuffers(true);
        Check.moves(y, "0 0");
        Check.due("nor what is buffered", sum(4, 2, 5, 0, 0, 2), y::checksum);
        Check.moves(y, "b0");
        Check.due("once it went to its word", sum(5, 2, 5, 0, 0, 3), y::checksum);
    }

    /** The state is among those found, rows are shortest, no end is writing, and the first order fits. */
    private static void soundInAllCases() {
        Check.due("a new one", true, () -> new Ticketdoor().isSound());
        Check.due("six words, three hands", true, () -> Check.withHands(Check.words(1, 2, 3, 4, 5, 6), "", "", "").isSound());
        Ticketdoor x = new Ticketdoor();
        x.addWord(9, true, 2);
        Check.withHands(x, "w 0 0; z 0; d 0", "r 0 0; i");
        x.setDeath(0, 1);
        for (String move : new String[] {"0", "1:2", "d0", "0:1", "1", "0"}) {
            Check.moves(x, move);
            Check.due("behind " + move, true, x::isSound);
        }
        Ticketdoor crowd = Check.hands("o; ".repeat(16), "o; ".repeat(16), "o; ".repeat(16));
        Check.moves(crowd, "0 1 2 ".repeat(16));
        Check.due("too many states", true, crowd::isSound);
        Check.due("with an order", true, () -> calls("w1 5 9", "r1 0 6", "e1 0 9", "d1 0 9").isSound());
        Check.due("the last of many orders", true, () -> calls("w1 20 21", "e2 16 17", "w3 12 13", "e4 8 9", "r5 7 9", "w5 0 7").isSound());
    }
}
