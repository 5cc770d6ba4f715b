import java.util.Objects;

/** Compares answers with what is due, and tells the exit code from it. */
final class Check {
    private static int done = 0;
    private static int wrong = 0;

    interface Call {
        Object answer();
    }

    private Check() {
    }

    /** What is due is an answer, or the class of the exception that the call throws. */
    static void due(String what, Object due, Call call) {
        Object got;
        try {
            got = call.answer();
        } catch (RuntimeException e) {
            got = e.getClass();
        }
        done++;
        if (!Objects.equals(due, got)) {
            wrong++;
            System.out.println(what + " answered " + got + ", due is " + due);
        }
    }

    static void that(String what, boolean holds) {
        due(what, true, () -> holds);
    }

    /** Adds steps told as "k 0 1; w 0 0; j 0 0 2", numbers that are left out being 0. */
    static void steps(Ticketdoor x, int hand, String program) {
        for (String told : program.split(";")) {
            if (told.isBlank()) {
                continue;
            }
            String[] parts = told.trim().split(" +");
            int[] numbers = new int[3];
            for (int index = 1; index < parts.length; index++) {
                numbers[index - 1] = Integer.parseInt(parts[index]);
            }
            x.addStep(hand, parts[0].charAt(0), numbers[0], numbers[1], numbers[2]);
        }
    }

    /** A new object with a hand for each of the programs. */
    static Ticketdoor hands(String... programs) {
        return withHands(new Ticketdoor(), programs);
    }

    static Ticketdoor withHands(Ticketdoor x, String... programs) {
        for (String program : programs) {
            int hand = x.addHand();
            steps(x, hand, program);
        }
        return x;
    }

    /** Makes moves told as "0 1:2 b1 d0": a step of hand 0, one of hand 1 with choice 2, a buffer's and a death. */
    static Ticketdoor moves(Ticketdoor x, String told) {
        for (String move : told.trim().split(" +")) {
            if (move.startsWith("b")) {
                x.flush(move.charAt(1) - '0');
            } else if (move.startsWith("d")) {
                x.die(move.charAt(1) - '0');
            } else if (!move.isEmpty()) {
                x.act(move.charAt(0) - '0', move.length() < 3 ? 0 : Integer.parseInt(move.substring(2)));
            }
        }
        return x;
    }

    /** A new object with whole words of these values. */
    static Ticketdoor words(int... values) {
        Ticketdoor x = new Ticketdoor();
        for (int value : values) {
            x.addWord(value, false, 1);
        }
        return x;
    }

    static void finish(String name) {
        System.out.println(name + ": " + done + " checks, " + wrong + " wrong");
        if (wrong != 0 || done == 0) {
            System.exit(1);
        }
    }
}
