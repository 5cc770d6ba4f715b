import java.util.LinkedHashMap;
import java.util.Map;

/**
 * What a call changes, and nothing besides: an object behind a call is compared with a twin that came to the same by
 * another order of calls.
 */
public final class ChangesTest {
    private interface Use {
        Object on(Ticketdoor x);
    }

    public static void main(String[] args) {
        questionsChangeNothing();
        tellingBeginsARunAnew();
        startBeginsARunAnew();
        movesChangeTheRunAlone();
        callsChangeTheHistoryAlone();
        droppedCallsAlone();
        Check.finish("ChangesTest");
    }

    private static String outcome(Ticketdoor x, Use use) {
        try {
            return "" + use.on(x);
        } catch (RuntimeException e) {
            return e.getClass().getSimpleName();
        }
    }

    /** The one object is used once as it is, and once when all was asked before. */
    private static void like(String what, Samples.Maker twin, Samples.Maker made, Use use) {
        String due = Answers.shown(twin.make());
        Ticketdoor unasked = made.make();
        use.on(unasked);
        Check.due(what, due, () -> Answers.shown(unasked));
        Ticketdoor asked = made.make();
        Answers.asked(asked);
        use.on(asked);
        Check.due(what + ", asked before", due, () -> Answers.shown(asked));
    }

    private static Map<String, Use> questions() {
        Map<String, Use> all = new LinkedHashMap<>();
        all.put("countStates", Ticketdoor::countStates);
        all.put("countMoves", Ticketdoor::countMoves);
        all.put("countEnds", Ticketdoor::countEnds);
        all.put("mostInside", Ticketdoor::mostInside);
        all.put("countOutcomes", Ticketdoor::countOutcomes);
        all.put("canDisagree", Ticketdoor::canDisagree);
        all.put("countUndecided", Ticketdoor::countUndecided);
        all.put("getState", Ticketdoor::getState);
        all.put("countOrders", Ticketdoor::countOrders);
        all.put("insideShare", Ticketdoor::insideShare);
        all.put("meanMoves", Ticketdoor::meanMoves);
        all.put("checksum", Ticketdoor::checksum);
        all.put("isSound", Ticketdoor::isSound);
        for (int number = 0; number < 6; number++) {
            int at = number;
            all.put("rowLength " + at, x -> x.rowLength(at));
            all.put("rowAt " + at, x -> x.rowAt(1, at));
            all.put("canDecide " + at, x -> x.canDecide(at));
            all.put("canEnd " + at, x -> x.canEnd(at, 5));
            all.put("greatest " + at, x -> x.greatest(at));
            all.put("getWord " + at, x -> x.getWord(at));
            all.put("orderAt " + at, x -> x.orderAt(at));
        }
        for (int number = 0; number < 3; number++) {
            int hand = number;
            all.put("countSteps " + hand, x -> x.countSteps(hand));
            all.put("canStarve " + hand, x -> x.canStarve(hand));
            all.put("overtakes " + hand, x -> x.overtakes(hand, (hand + 1) % 3));
            all.put("overtaken " + hand, x -> x.overtakes((hand + 1) % 3, hand));
            all.put("canKeep " + hand, x -> x.canKeep(hand, hand, 1));
            all.put("movesAlone " + hand, x -> x.movesAlone(hand));
            all.put("getNext " + hand, x -> x.getNext(hand));
            all.put("getRegister " + hand, x -> x.getRegister(hand, 1));
            all.put("isInside " + hand, x -> x.isInside(hand));
            all.put("isTrying " + hand, x -> x.isTrying(hand));
            all.put("getDecided " + hand, x -> x.getDecided(hand));
            all.put("countBuffered " + hand, x -> x.countBuffered(hand));
        }
        return all;
    }

    /** "Returns how many ...", "Tells whether ...": what is only asked for changes nothing, answered or refused. */
    private static void questionsChangeNothing() {
        Map<String, Use> questions = questions();
        for (Samples.Sample sample : Samples.ALL) {
            String untouched = Answers.shown(sample.make());
            for (String name : questions.keySet()) {
                Use question = questions.get(name);
                Ticketdoor x = sample.make();
                String answer = outcome(x, question);
                Check.due(name + " of " + sample.name(), untouched, () -> Answers.shown(x));
                Ticketdoor again = sample.make();
                for (int time = 0; time < 3; time++) {
                    Check.due(name + " of " + sample.name() + " again", answer, () -> outcome(again, question));
                }
            }
            Ticketdoor x = sample.make();
            String asked = Answers.asked(x);
            Check.due("all questions of " + sample.name() + " again", asked, () -> Answers.asked(x));
            Check.due("and again", asked, () -> Answers.asked(x));
        }
    }

    /** "All that is told of words, hands, steps, buffers and deaths begins a run anew", and changes nothing else. */
    private static void told(String what, Samples.Sample sample, Samples.Sample with, Use telling) {
        like(what + " to " + sample.name(), () -> with.history(with.toldOtherwise()), sample::make, telling);
    }

    private static void tellingBeginsARunAnew() {
        for (Samples.Sample sample : Samples.ALL) {
            if (sample != Samples.FULL) {
                told("addWord", sample, sample.withWord("6w1"), x -> x.addWord(6, false, 1));
                told("addWord, safe", sample, sample.withWord("9s4"), x -> x.addWord(9, true, 4));
            }
            if (sample.programs().length < 3) {
                told("addHand", sample, sample.withHand(), Ticketdoor::addHand);
            }
            for (boolean areOn : new boolean[] {false, true}) {
                told("setBuffers " + areOn, sample, sample.withBuffers(areOn), x -> x.setBuffers(areOn));
            }
            for (int number = 0; number < sample.programs().length; number++) {
                int hand = number;
                String program = sample.programs()[hand];
                told("dropSteps " + hand, sample, sample.withProgram(hand, ""), x -> x.dropSteps(hand));
                if (sample != Samples.FULL || hand > 0) {
                    told("addStep " + hand, sample, sample.withProgram(hand, program + "; i"),
                            x -> x.addStep(hand, 'i', 0, 0, 0));
                    told("addStep of a word " + hand, sample, sample.withProgram(hand, program + "; w 2 0"),
                            x -> x.addStep(hand, 'w', 2, 0, 0));
                }
                for (int death = -1; death <= 3; death++) {
                    int step = death;
                    told("setDeath " + hand + " " + step, sample, sample.withDeath(hand, step), x -> x.setDeath(hand, step));
                }
            }
        }
    }

    /** "Begins a run anew", and leaves all that was told, and the calls. */
    private static void startBeginsARunAnew() {
        for (Samples.Sample sample : Samples.ALL) {
            told("start", sample, sample, Ticketdoor::start);
        }
    }

    /** A move leaves what was told, and the calls: like a twin to which the calls are told behind it. */
    private static void movesChangeTheRunAlone() {
        Map<String, Use> moves = new LinkedHashMap<>();
        for (int number = 0; number < 3; number++) {
            int hand = number;
            moves.put("act " + hand, x -> x.act(hand, 0));
            moves.put("act by the second choice " + hand, x -> x.act(hand, 1));
            moves.put("flush " + hand, x -> x.flush(hand));
            moves.put("die " + hand, x -> x.die(hand));
        }
        for (String name : moves.keySet()) {
            Use move = moves.get(name);
            boolean isMade = false;
            for (Samples.Sample sample : Samples.ALL) {
                if (!outcome(sample.make(), move).endsWith("Exception")) {
                    isMade = true;
                    like(name + " of " + sample.name(), () -> {
                        Ticketdoor twin = sample.run(sample.toldOtherwise());
                        move.on(twin);
                        return sample.history(twin);
                    }, sample::make, move);
                }
            }
            Check.that(name + " is made by some", isMade);
        }
    }

    /** A call leaves what was told, and the run: like a twin to which it is told before the run. */
    private static void callsChangeTheHistoryAlone() {
        for (char kind : "wred".toCharArray()) {
            for (Samples.Sample sample : Samples.ALL) {
                if (sample != Samples.FULL) {
                    Samples.Sample with = sample.withCall(kind + "1 3 7");
                    like("addCall " + kind + " to " + sample.name(), () -> with.run(with.history(with.toldOtherwise())),
                            sample::make, x -> x.addCall(kind, 1, 3, 7));
                }
            }
        }
    }

    /** "Takes all calls away", and nothing else: like a twin that never had one. */
    private static void droppedCallsAlone() {
        for (Samples.Sample sample : Samples.ALL) {
            Samples.Sample without = sample.withoutCalls();
            like("dropCalls of " + sample.name(), () -> without.run(without.toldOtherwise()), sample::make,
                    Ticketdoor::dropCalls);
        }
    }
}
