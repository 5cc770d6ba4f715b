import java.util.Arrays;

/** Objects in the midst of their use, described so that a twin can be made by the same calls in another order. */
final class Samples {
    interface Maker {
        Ticketdoor make();
    }

    /**
     * Words told as "5s3 7w1" (value, safe or whole, most), a program for each hand, a death for each hand, calls told
     * as "w1 0 5", and the moves of a run.
     */
    record Sample(String name, String words, String[] programs, int[] deaths, boolean hasBuffers, String[] calls, String moves) {
        Ticketdoor make() {
            return run(history(told()));
        }

        Ticketdoor told() {
            Ticketdoor x = new Ticketdoor();
            addWords(x);
            Check.withHands(x, programs);
            for (int hand = 0; hand < programs.length; hand++) {
                x.setDeath(hand, deaths[hand]);
            }
            x.setBuffers(hasBuffers);
            return x;
        }

        /** Told the other way round: what may come early comes first, and the last hand's steps before the first one's. */
        Ticketdoor toldOtherwise() {
            Ticketdoor x = new Ticketdoor();
            x.setBuffers(hasBuffers);
            for (int hand = 0; hand < programs.length; hand++) {
                x.addHand();
                x.setDeath(hand, deaths[hand]);
            }
            addWords(x);
            for (int hand = programs.length - 1; hand >= 0; hand--) {
                Check.steps(x, hand, programs[hand]);
            }
            return x;
        }

        private void addWords(Ticketdoor x) {
            for (String word : words.trim().split(" +")) {
                if (!word.isEmpty()) {
                    x.addWord(word.charAt(0) - '0', word.charAt(1) == 's', word.charAt(2) - '0');
                }
            }
        }

        Ticketdoor history(Ticketdoor x) {
            for (String call : calls) {
                String[] parts = call.split(" ");
                x.addCall(call.charAt(0), parts[0].charAt(1) - '0', Integer.parseInt(parts[1]), Integer.parseInt(parts[2]));
            }
            return x;
        }

        Ticketdoor run(Ticketdoor x) {
            return Check.moves(x, moves);
        }

        Sample withWord(String word) {
            return new Sample(name, words + " " + word, programs, deaths, hasBuffers, calls, moves);
        }

        Sample withHand() {
            String[] more = Arrays.copyOf(programs, programs.length + 1);
            more[programs.length] = "";
            int[] all = Arrays.copyOf(deaths, programs.length + 1);
            all[programs.length] = -1;
            return new Sample(name, words, more, all, hasBuffers, calls, moves);
        }

        Sample withProgram(int hand, String program) {
            String[] others = programs.clone();
            others[hand] = program;
            return new Sample(name, words, others, deaths, hasBuffers, calls, moves);
        }

        Sample withDeath(int hand, int step) {
            int[] others = deaths.clone();
            others[hand] = step;
            return new Sample(name, words, programs, others, hasBuffers, calls, moves);
        }

        Sample withBuffers(boolean areOn) {
            return new Sample(name, words, programs, deaths, areOn, calls, moves);
        }

        Sample withCall(String call) {
            String[] more = Arrays.copyOf(calls, calls.length + 1);
            more[calls.length] = call;
            return new Sample(name, words, programs, deaths, hasBuffers, more, moves);
        }

        Sample withoutCalls() {
            return new Sample(name, words, programs, deaths, hasBuffers, new String[0], moves);
        }
    }

    static final Sample EMPTY = sample("empty", "", hands(), deaths(), false, "");
    /** Two words, two hands in the midst of a run, hand 0 writing its safe word, and three calls. */
    static final Sample BUSY = sample("busy", "5s3 7w1", hands("t; k 0 1; w 0 0; i; d 0; o", "r 0 0; d 0; f 1 1; o"),
            deaths(1, -1), false, "0 0 0 1:2 1", "w1 0 5", "r1 2 4", "e3 0 9");
    /** Hand 1 may read 0 to 3, while hand 0 writes. */
    static final Sample TORN = sample("torn", "5s3", hands("w 0 0", "r 0 0; d 0"), deaths(-1, -1), false, "0",
            "w1 0 5", "e1 0 9", "e2 0 9", "d1 0 9", "r1 5 9");
    /** Buffers with two and with one thing, and a hand that died once. */
    static final Sample BUFFERED = sample("buffered", "1w1 2w1",
            hands("k 0 4; w 0 0; w 0 1; w 0 0; s 0 0; z 1", "w 0 1; y; i; t", ""), deaths(-1, 0, 3), true, "1 d1 0 0 0 1",
            "e1 0 9", "d1 0 9");
    /** As many words, hands, steps and calls as there can be, and no order of the calls. */
    static final Sample FULL = sample("full", "0w1 1w1 2w1 3w1 4w1 9w1",
            hands("t; i; o; h; " + "o; ".repeat(11) + "o", "f 1 5; h", "k 0 3"), deaths(-1, -1, -1), false, "0 0 1",
            "w1 0 1", "r2 2 3", "e3 0 9", "d3 0 9", "d3 0 9", "w2 5 9");
    /** More than 1000 states, hand 0 inside, hand 1 at its end, and no call. */
    static final Sample CROWDED = sample("crowded", "3w1",
            hands("i; " + "o; ".repeat(8) + "d 0", "z 0; " + "o; ".repeat(9) + "o", "t; j 0 0 0"), deaths(0, -1, -1), false,
            "0 1:1 2 1 1 1 1 1 1 1 1 1 1");
    /** Each hand may toss, has something in its buffer, and can die. */
    static final Sample READY = sample("ready", "1w1 2s3", hands("w 0 0; z 1", "k 2 5; w 2 1; z 2", "w 1 1; z 0; i"),
            deaths(2, 0, 1), true, "0 1 1 2", "w3 0 9", "r3 1 4", "r0 0 2");
    static final Sample[] ALL = {EMPTY, BUSY, TORN, BUFFERED, FULL, CROWDED, READY};

    private Samples() {
    }

    private static Sample sample(String name, String words, String[] programs, int[] deaths, boolean hasBuffers, String moves,
            String... calls) {
        return new Sample(name, words, programs, deaths, hasBuffers, calls, moves);
    }

    private static String[] hands(String... programs) {
        return programs;
    }

    private static int[] deaths(int... steps) {
        return steps;
    }

    static Ticketdoor empty() {
        return EMPTY.make();
    }

    static Ticketdoor busy() {
        return BUSY.make();
    }

    static Ticketdoor torn() {
        return TORN.make();
    }

    static Ticketdoor buffered() {
        return BUFFERED.make();
    }

    static Ticketdoor full() {
        return FULL.make();
    }

    static Ticketdoor crowded() {
        return CROWDED.make();
    }
}
