/** What an object tells, as one text, so that an object is compared with itself or with its twin. */
final class Answers {
    private final StringBuilder text = new StringBuilder();

    private Answers() {
    }

    private void put(String what, Check.Call call) {
        text.append(what).append(' ');
        try {
            text.append(call.answer());
        } catch (RuntimeException e) {
            text.append(e.getClass().getSimpleName());
        }
        text.append('\n');
    }

    /** Asks without changing anything, by some eighty calls. */
    static String asked(Ticketdoor x) {
        Answers all = new Answers();
        all.put("checksum", x::checksum);
        all.askHistory(x);
        all.askShelf(x);
        for (int hand = 0; hand < 3; hand++) {
            all.askHand(x, hand);
        }
        all.askStates(x);
        all.put("isSound", x::isSound);
        return all.text.toString();
    }

    /** Asks, and then takes the object apart to see what no question shows: some 260 calls. */
    static String shown(Ticketdoor x) {
        Answers all = new Answers();
        all.text.append(asked(x));
        all.walkOn(x);
        all.put("start", x::start);
        all.text.append(asked(x));
        all.walkOn(x);
        all.put("dropCalls", x::dropCalls);
        all.put("addCall", () -> x.addCall('w', 1, 0, 1));
        for (int number = 0; number < 3; number++) {
            int hand = number;
            all.put("setDeath " + hand, () -> x.setDeath(hand, -1));
            all.put("dropSteps " + hand, () -> x.dropSteps(hand));
            all.put("addStep " + hand, () -> x.addStep(hand, 't', 0, 0, 0));
        }
        all.put("setBuffers", () -> x.setBuffers(false));
        all.put("addWord", () -> x.addWord(9, true, 9));
        all.put("addHand", x::addHand);
        all.put("start", x::start);
        return all.text.toString();
    }

    private void askShelf(Ticketdoor x) {
        for (int number = 0; number < 6; number++) {
            int word = number;
            put("getWord " + word, () -> x.getWord(word));
            put("greatest " + word, () -> x.greatest(word));
        }
    }

    private void askHand(Ticketdoor x, int hand) {
        put("countSteps " + hand, () -> x.countSteps(hand));
        put("getNext " + hand, () -> x.getNext(hand));
        for (int number = 0; number < 3; number++) {
            int register = number;
            put("getRegister " + hand + " " + register, () -> x.getRegister(hand, register));
        }
        put("isInside " + hand, () -> x.isInside(hand));
        put("isTrying " + hand, () -> x.isTrying(hand));
        put("getDecided " + hand, () -> x.getDecided(hand));
        put("countBuffered " + hand, () -> x.countBuffered(hand));
        put("canStarve " + hand, () -> x.canStarve(hand));
        put("movesAlone " + hand, () -> x.movesAlone(hand));
        put("overtakes " + hand, () -> x.overtakes(hand, (hand + 1) % 3));
        put("overtaken " + hand, () -> x.overtakes((hand + 1) % 3, hand));
    }

    private void askStates(Ticketdoor x) {
        put("countStates", x::countStates);
        put("countMoves", x::countMoves);
        put("countEnds", x::countEnds);
        put("mostInside", x::mostInside);
        put("countOutcomes", x::countOutcomes);
        put("canDisagree", x::canDisagree);
        put("countUndecided", x::countUndecided);
        put("getState", x::getState);
        put("insideShare", x::insideShare);
        put("meanMoves", x::meanMoves);
        for (int number = 1; number <= 3; number++) {
            int many = number;
            put("rowLength " + many, () -> x.rowLength(many));
            put("rowAt " + many, () -> x.rowAt(many, 0));
        }
        put("canEnd", () -> x.canEnd(0, 1));
        put("canKeep", () -> x.canKeep(0, 0, 1));
        put("canDecide", () -> x.canDecide(1));
    }

    private void askHistory(Ticketdoor x) {
        put("countOrders", x::countOrders);
        for (int number = 0; number < 6; number++) {
            int index = number;
            put("orderAt " + index, () -> x.orderAt(index));
        }
    }

    private void walkOn(Ticketdoor x) {
        for (int round = 0; round < 6; round++) {
            for (int number = 0; number < 3; number++) {
                int hand = number;
                put("act " + hand, () -> x.act(hand, 0));
                put("flush " + hand, () -> x.flush(hand));
            }
        }
        for (int number = 0; number < 3; number++) {
            int hand = number;
            put("die " + hand, () -> x.die(hand));
        }
        put("checksum", x::checksum);
    }
}
