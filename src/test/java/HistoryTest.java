import java.util.NoSuchElementException;

/** Promises 37 to 40: calls, and their orders. */
public final class HistoryTest {
    private static final Class<?> BAD = IllegalArgumentException.class;
    private static final Class<?> NONE = NoSuchElementException.class;

    public static void main(String[] args) {
        addCall();
        dropCalls();
        withoutCalls();
        wordOrders();
        aheadOrders();
        queueOrders();
        firstOrders();
        Check.finish("HistoryTest");
    }

    private static void addCall() {
        Ticketdoor x = new Ticketdoor();
        Check.due("no such kind", BAD, () -> x.addCall('x', 0, 0, 1));
        Check.due("a kind far off", BAD, () -> x.addCall((char) ('w' + 65280), 0, 0, 1));
        Check.due("value below", BAD, () -> x.addCall('w', -1, 0, 1));
        Check.due("value above", BAD, () -> x.addCall('w', 10, 0, 1));
        Check.due("beginning below", BAD, () -> x.addCall('w', 0, -1, 1));
        Check.due("beginning above", BAD, () -> x.addCall('w', 0, 1000, 1001));
        Check.due("end above", BAD, () -> x.addCall('w', 0, 0, 1000));
        Check.due("end at the beginning", BAD, () -> x.addCall('w', 0, 5, 5));
        Check.due("end ahead of the beginning", BAD, () -> x.addCall('w', 0, 5, 4));
        Check.due("no end behind 999", BAD, () -> x.addCall('w', 0, 999, 999));
        Check.due("far off", BAD, () -> x.addCall('w', 0, Integer.MIN_VALUE, Integer.MAX_VALUE));
        char[] kinds = {'w', 'r', 'e', 'd', 'w', 'r'};
        for (int call = 0; call < 6; call++) {
            int at = call;
            Check.due("call " + call, call, () -> x.addCall(kinds[at], 9, at == 0 ? 0 : 998, 999));
        }
        Check.due("a seventh", IllegalStateException.class, () -> x.addCall('w', 0, 0, 1));
        Check.due("a bad seventh", BAD, () -> x.addCall('w', 0, 1, 1));
    }

    private static void dropCalls() {
        Ticketdoor x = new Ticketdoor();
        Check.due("none", 0, x::dropCalls);
        x.addCall('r', 5, 0, 1);
        x.addCall('d', 5, 0, 1);
        Check.due("two", 2, x::dropCalls);
        Check.due("none again", 0, x::dropCalls);
        Check.due("none is left", 1, x::countOrders);
        Check.due("the next one is 0", 0, () -> x.addCall('w', 5, 3, 4));
        x.addCall('w', 5, 0, 2);
        Check.due("what went ahead is told anew", 1, () -> x.orderAt(0));
        Ticketdoor y = calls("w1 0 1", "w2 2 3", "r7 4 5");
        Check.due("no order", 0, y::countOrders);
        Check.due("three", 3, y::dropCalls);
        Check.due("the empty order", 1, y::countOrders);
        Check.due("no place", NONE, () -> y.orderAt(0));
        y.addCall('w', 1, 0, 9);
        y.addCall('w', 2, 0, 9);
        Check.due("nothing goes ahead any more", 2, y::countOrders);
    }

    private static void withoutCalls() {
        Ticketdoor x = new Ticketdoor();
        Check.due("one order", 1, x::countOrders);
        Check.due("without a place", NONE, () -> x.orderAt(0));
        Check.due("nor below", NONE, () -> x.orderAt(-1));
    }

    /** Calls told as "w3 0 5", each with kind and value, beginning and end. */
    private static Ticketdoor calls(String... told) {
        Ticketdoor x = new Ticketdoor();
        for (String call : told) {
            String[] parts = call.split(" ");
            x.addCall(call.charAt(0), parts[0].charAt(1) - '0', Integer.parseInt(parts[1]), Integer.parseInt(parts[2]));
        }
        return x;
    }

    private static void orders(String what, int due, String... told) {
        Check.due(what, due, () -> calls(told).countOrders());
    }

    private static void wordOrders() {
        orders("a read of 0 at first", 1, "r0 0 1");
        orders("a read of another value", 0, "r1 0 1");
        orders("two writes at once", 2, "w1 0 9", "w2 0 9");
        orders("a read of the last one", 1, "w1 0 9", "r1 0 9");
        orders("reads between writes", 2, "w1 0 9", "r1 0 9", "w2 0 9", "r2 0 9", "r0 0 9");
        orders("a read of an older one", 0, "w1 0 1", "w2 2 3", "r1 4 5");
        orders("six at once", 720, "w1 0 9", "w2 0 9", "w3 0 9", "w4 0 9", "w5 0 9", "w6 0 9");
        orders("a queue does not change the word", 2, "e4 0 9", "r0 0 9");
    }

    private static void aheadOrders() {
        orders("one behind the other", 1, "w1 0 4", "w2 5 9");
        orders("the other way", 1, "w1 5 9", "w2 0 4");
        orders("end and beginning meet", 2, "w1 0 5", "w2 5 9");
        orders("one round the other", 2, "w1 0 9", "w2 3 4");
        orders("a row of six", 1, "w1 10 11", "w2 8 9", "w3 6 7", "w4 4 5", "w5 2 3", "w6 0 1");
        orders("two ahead of one", 2, "w1 0 4", "w2 0 4", "w3 5 9");
    }

    private static void queueOrders() {
        orders("leaves an empty queue", 0, "d0 0 9");
        orders("leaves ahead of entering", 0, "d1 0 1", "e1 2 3");
        orders("enters and leaves", 1, "d1 0 9", "e1 0 9");
        orders("the first one leaves first", 1, "e1 0 1", "e2 2 3", "d1 4 9", "d2 4 9");
        orders("the second one cannot", 0, "e1 0 1", "e2 2 3", "d2 4 9");
        orders("two alike", 4, "e1 0 1", "e1 0 1", "d1 4 9", "d1 4 9");
        orders("a 0 is a thing, too", 1, "e0 0 1", "d0 2 3");
        orders("three and three", 1, "e1 0 1", "e2 2 3", "e3 4 5", "d1 6 7", "d2 8 9", "d3 10 11");
        orders("emptied and filled again", 1, "e1 0 1", "d1 2 3", "e2 4 5", "d2 6 7", "e3 8 9", "d3 10 11");
    }

    private static void first(String what, int[] due, String... told) {
        Ticketdoor x = calls(told);
        for (int index = 0; index < due.length; index++) {
            int at = index;
            Check.due(what + " at " + index, due[index], () -> x.orderAt(at));
        }
        Check.due(what + " has no more", NONE, () -> x.orderAt(due.length));
        Check.due(what + " has none below", NONE, () -> x.orderAt(-1));
        Check.due(what + " has none far off", NONE, () -> x.orderAt(Integer.MAX_VALUE));
    }

    private static void firstOrders() {
        first("by rising numbers", new int[] {0, 1, 2}, "w1 0 9", "w2 0 9", "w3 0 9");
        first("as ends tell", new int[] {2, 1, 0}, "w1 4 5", "w2 2 3", "w3 0 1");
        first("as values tell", new int[] {2, 0, 1}, "w3 0 9", "r3 0 9", "r0 0 9");
        first("as the queue tells", new int[] {1, 0, 3, 2}, "e1 0 9", "e2 0 9", "d1 5 9", "d2 0 2");
        Ticketdoor none = calls("r1 0 1", "w1 2 3");
        Check.due("no order", 0, none::countOrders);
        Check.due("no order, no place", NONE, () -> none.orderAt(0));
        Ticketdoor x = calls("w1 0 9");
        Check.due("one", 0, () -> x.orderAt(0));
        x.addCall('r', 0, 0, 9);
        Check.due("one ahead of it then", 1, () -> x.orderAt(0));
    }
}
