/** Promises 41 to 44: shares, means, the sum over a run, and whether all is sound. */
public final class FiguresTest {
    public static void main(String[] args) {
        insideShare();
        meanMoves();
        checksum();
        isSound();
        Check.finish("FiguresTest");
    }

    private static void insideShare() {
        Check.due("nobody", 0.0f, () -> Check.hands("t; o").insideShare());
        Check.due("one of three", 1.0f / 3.0f, () -> Check.hands("i; o").insideShare());
        Check.due("some hand, not each", 3.0f / 4.0f, () -> Check.hands("i", "i").insideShare());
        Check.due("no hands", 0.0f, () -> new Ticketdoor().insideShare());
    }

    private static void meanMoves() {
        Check.due("without moves", 0.0, () -> new Ticketdoor().meanMoves());
        Check.due("two moves of three states", 2.0 / 3.0, () -> Check.hands("o; o").meanMoves());
        Check.due("a toss", 6.0 / 4.0, () -> Check.hands("z 0; j 0 0 0").meanMoves());
    }

    private static long sum(long... numbers) {
        long sum = 7;
        for (long number : numbers) {
            sum = 31 * sum + number;
        }
        return sum;
    }

    private static void checksum() {
        Ticketdoor x = new Ticketdoor();
        Check.due("nothing", sum(0), x::checksum);
        x.addWord(4, false, 1);
        x.addWord(6, false, 1);
        Check.due("words", sum(4, 6, 0), x::checksum);
        Check.withHands(x, "k 0 1; k 1 2; k 2 3; w 1 0", "o; h");
        Check.due("hands", sum(4, 6, 0, 0, 0, 0, 0, 0, 0, 0, 0), x::checksum);
        for (int move = 0; move < 4; move++) {
            x.act(0, 0);
        }
        x.act(1, 0);
        x.act(1, 0);
        Check.due("moves", sum(2, 6, 4, 1, 2, 3, 16, 0, 0, 0, 6), x::checksum);
        x.addCall('w', 1, 0, 1);
        Check.due("no calls in it", sum(2, 6, 4, 1, 2, 3, 16, 0, 0, 0, 6), x::checksum);
        x.start();
        Check.due("begun anew", sum(4, 6, 0, 0, 0, 0, 0, 0, 0, 0, 0), x::checksum);
    }

    private static void isSound() {
        Ticketdoor x = new Ticketdoor();
        x.addWord(0, true, 3);
        Check.withHands(x, "t; k 0 1; w 0 0; i; o; j 0 0 0", "r 0 0; d 0", "f 0 0");
        x.setDeath(0, 0);
        Check.due("at first", true, x::isSound);
        for (int move = 0; move < 20; move++) {
            x.act(0, 0);
            Check.due("after " + move, true, x::isSound);
        }
        x.die(0);
        Check.due("after a death", true, x::isSound);
        x.addCall('w', 1, 0, 9);
        x.addCall('r', 1, 0, 9);
        Check.due("with an order", true, x::isSound);
        x.addCall('r', 2, 0, 9);
        Check.due("there is none", 0, x::countOrders);
        Check.due("without an order", true, x::isSound);
    }
}
