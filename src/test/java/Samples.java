/** Objects in the midst of their use, told in three parts so that a twin can be made in another order. */
final class Samples {
    interface Maker {
        Ticketdoor make();
    }

    /** What is told of words, hands, steps, buffers and deaths; then calls; then the moves of a run. */
    record Sample(String name, Maker told, String[] calls, String moves) {
        Ticketdoor make() {
            return Check.moves(addCalls(told.make()), moves);
        }

        Ticketdoor addCalls(Ticketdoor x) {
            for (String call : calls) {
                String[] parts = call.split(" ");
                x.addCall(call.charAt(0), parts[0].charAt(1) - '0', Integer.parseInt(parts[1]), Integer.parseInt(parts[2]));
            }
            return x;
        }
    }

    static final Sample EMPTY = sample("empty", Ticketdoor::new, "");
    /** Two words, two hands in the midst of a run, hand 0 writing its safe word, and three calls. */
    static final Sample BUSY = sample("busy", Samples::toldBusy, "0 0 0 1:2 1", "w1 0 5", "r1 2 4", "e3 0 9");
    /** Hand 1 may read 0 to 3, while hand 0 writes. */
    static final Sample TORN = sample("torn", Samples::toldTorn, "0");
    /** Buffers with two and with one thing, and a hand that died once. */
    static final Sample BUFFERED = sample("buffered", Samples::toldBuffered, "1 d1 0 0 0 1", "e1 0 9", "d1 0 9");
    /** As many words, hands, steps and calls as there can be, and no order of the calls. */
    static final Sample FULL = sample("full", Samples::toldFull, "0 0 1",
            "w1 0 1", "r2 2 3", "e3 0 9", "d3 0 9", "d3 0 9", "w2 5 9");
    /** More than 1000 states, hand 0 inside, hand 1 at its end, and no call. */
    static final Sample CROWDED = sample("crowded", Samples::toldCrowded, "0 1:1 2 1 1 1 1 1 1 1 1 1 1");
    static final Sample[] ALL = {EMPTY, BUSY, TORN, BUFFERED, FULL, CROWDED};

    private Samples() {
    }

    private static Sample sample(String name, Maker told, String moves, String... calls) {
        return new Sample(name, told, calls, moves);
    }

    static Ticketdoor empty() {
        return EMPTY.make();
    }

    static Ticketdoor busy() {
        return BUSY.make();
    }

    static Ticketdoor torn() {
        return TORN.make();
    }

    static Ticketdoor buffered() {
        return BUFFERED.make();
    }

    static Ticketdoor full() {
        return FULL.make();
    }

    static Ticketdoor crowded() {
        return CROWDED.make();
    }

    private static Ticketdoor toldBusy() {
        Ticketdoor x = new Ticketdoor();
        x.addWord(5, true, 3);
        x.addWord(7, false, 1);
        Check.withHands(x, "t; k 0 1; w 0 0; i; d 0; o", "r 0 0; d 0; f 1 1; o");
        x.setDeath(0, 1);
        return x;
    }

    private static Ticketdoor toldTorn() {
        Ticketdoor x = new Ticketdoor();
        x.addWord(5, true, 3);
        return Check.withHands(x, "w 0 0", "r 0 0; d 0");
    }

    private static Ticketdoor toldBuffered() {
        Ticketdoor x = Check.withHands(Check.words(1, 2), "k 0 4; w 0 0; w 0 1; w 0 0; s 0 0; z 1", "w 0 1; y; i; t", "");
        x.setBuffers(true);
        x.setDeath(1, 0);
        x.setDeath(2, 3);
        return x;
    }

    private static Ticketdoor toldFull() {
        return Check.withHands(Check.words(0, 1, 2, 3, 4, 9), "t; i; o; h; " + "o; ".repeat(11) + "o", "f 1 5; h", "k 0 3");
    }

    private static Ticketdoor toldCrowded() {
        Ticketdoor x = Check.withHands(Check.words(3), "i; " + "o; ".repeat(8) + "d 0", "z 0; " + "o; ".repeat(9) + "o", "t; j 0 0 0");
        x.setDeath(0, 0);
        return x;
    }
}
