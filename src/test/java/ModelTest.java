import java.util.ArrayList;
import java.util.List;
import java.util.NoSuchElementException;
import java.util.Random;

/** Compares all answers with those of the model, over programs, runs and histories by a fixed seed. */
public final class ModelTest {
    private static final int OBJECTS = 2500;
    private static final int MOST_COMPARED = 250;
    private static final Class<?> TOO_MANY = ArithmeticException.class;
    private static final Class<?> NONE = NoSuchElementException.class;
    private static final Class<?> CANNOT = UnsupportedOperationException.class;

    /** Kinds of which programs are made, with those that need a word last: all alike, waits, decisions, words. */
    private static final String[] OWN = {"k+m=<jytiodzh", "ttttiiioojjjkk==<<", "zzdddddkkk=<jo", "kkk+=<yytid"};
    private static final String[] WITH_WORDS = {"rwsnf", "rrwwsn", "rrwwnnnsf", "rrrrrrrwwwwwwwssnnff"};

    private final Random random;
    private final int flavour;
    private final String name;
    private final Ticketdoor x = new Ticketdoor();
    private final Model model = new Model();
    private Model.State run = model.first();
    private int moves = 0;

    private ModelTest(int seed) {
        random = new Random(seed);
        flavour = seed % OWN.length;
        name = "object " + seed + " ";
    }

    public static void main(String[] args) {
        for (int seed = 0; seed < OBJECTS; seed++) {
            ModelTest test = new ModelTest(seed);
            test.tellAll();
            test.compareStates();
            test.compareRun();
            test.compareOrders();
            test.changeSome();
            test.compareStates();
            test.compareRun();
        }
        Check.finish("ModelTest");
    }

    private void due(String what, Object due, Check.Call call) {
        Check.due(name + what, due, call);
    }

    private void begin() {
        run = model.first();
        moves = 0;
    }

    private void tellAll() {
        int words = random.nextInt(4);
        for (int word = 0; word < words; word++) {
            Model.Word told = new Model.Word(random.nextInt(3), random.nextBoolean(), 1 + random.nextInt(3));
            model.words.add(told);
            x.addWord(told.value(), told.isSafe(), told.most());
        }
        int hands = 1 + random.nextInt(3);
        for (int hand = 0; hand < hands; hand++) {
            x.addHand();
            model.hands.add(new ArrayList<>());
            model.deaths.add(-1);
            addSteps(hand, random.nextInt(hands == 1 ? 12 : hands == 2 ? 8 : 5));
        }
        changeSettings();
    }

    private void changeSettings() {
        model.hasBuffers = random.nextInt(3) == 0;
        x.setBuffers(model.hasBuffers);
        for (int hand = 0; hand < model.hands.size(); hand++) {
            int death = random.nextInt(4) > 0 ? -1 : random.nextInt(model.hands.get(hand).size() + 1);
            int at = hand;
            due("setDeath", model.deaths.get(hand), () -> x.setDeath(at, death));
            model.deaths.set(hand, death);
        }
        begin();
    }

    private void changeSome() {
        int hand = random.nextInt(model.hands.size());
        int had = model.hands.get(hand).size();
        if (random.nextInt(3) == 0) {
            due("dropSteps", had, () -> x.dropSteps(hand));
            model.hands.get(hand).clear();
        }
        addSteps(hand, Math.min(1 + random.nextInt(3), 16 - model.hands.get(hand).size()));
        changeSettings();
    }

    private void addSteps(int hand, int many) {
        String kinds = model.words.isEmpty() ? OWN[flavour] : OWN[flavour] + WITH_WORDS[flavour];
        for (int step = 0; step < many; step++) {
            char kind = kinds.charAt(random.nextInt(kinds.length()));
            int a = "jytioh".indexOf(kind) >= 0 ? 0 : random.nextInt(3);
            int b = "rwsnf".indexOf(kind) >= 0 ? random.nextInt(model.words.size())
                    : kind == 'k' ? random.nextInt(3) : "+m=<".indexOf(kind) >= 0 ? random.nextInt(3) : 0;
            int c = kind == 'n' ? random.nextInt(3) : "=<j".indexOf(kind) >= 0 ? random.nextInt(many + 2) : 0;
            int number = model.hands.get(hand).size();
            due("addStep", number, () -> x.addStep(hand, kind, a, b, c));
            model.hands.get(hand).add(new Model.Step(kind, a, b, c));
        }
    }

    private void compareStates() {
        if (!model.explore(1000)) {
            due("countStates", TOO_MANY, x::countStates);
            due("getState", TOO_MANY, x::getState);
            return;
        }
        due("countStates", model.states.size(), x::countStates);
        due("countMoves", model.countMoves(), x::countMoves);
        due("countEnds", model.ends().size(), x::countEnds);
        int most = 0;
        int some = 0;
        for (int state = 0; state < model.states.size(); state++) {
            most = Math.max(most, model.inside(state));
            some += model.inside(state) > 0 ? 1 : 0;
        }
        due("mostInside", most, x::mostInside);
        due("insideShare", (float) some / (float) model.states.size(), x::insideShare);
        due("meanMoves", (double) model.countMoves() / (double) model.states.size(), x::meanMoves);
        due("countOutcomes", model.countOutcomes(), x::countOutcomes);
        compareRows();
        compareEnds();
        if (model.states.size() <= MOST_COMPARED) {
            if (random.nextBoolean()) {
                due("countUndecided", model.countUndecided(), x::countUndecided);
                compareWaits();
            } else {
                compareWaits();
                due("countUndecided", model.countUndecided(), x::countUndecided);
            }
        }
    }

    private void compareRows() {
        for (int many = 1; many <= 3; many++) {
            List<Integer> row = model.row(many);
            int inside = many;
            due("rowLength", row == null ? NONE : row.size(), () -> x.rowLength(inside));
            for (int index = 0; row != null && index <= row.size(); index++) {
                int at = index;
                due("rowAt", index < row.size() ? row.get(index) : NONE, () -> x.rowAt(inside, at));
            }
        }
    }

    private void compareEnds() {
        for (int number = 0; number < 4; number++) {
            int value = number;
            for (int index = 0; index < model.words.size(); index++) {
                int word = index;
                due("canEnd", model.ends().stream().anyMatch(end -> model.states.get(end).words.get(word) == value),
                        () -> x.canEnd(word, value));
            }
            for (int index = 0; index < 3 * model.hands.size(); index++) {
                int hand = index / 3;
                int register = index % 3;
                due("canKeep", model.ends().stream().anyMatch(
                        end -> model.states.get(end).hands.get(hand).registers[register] == value),
                        () -> x.canKeep(hand, register, value));
            }
            due("canDecide", model.ends().stream().anyMatch(end -> model.decided(end).contains(value)),
                    () -> x.canDecide(value));
        }
        due("canDisagree", model.ends().stream().anyMatch(end -> model.decided(end).size() > 1), x::canDisagree);
        for (int index = 0; index < model.words.size(); index++) {
            int word = index;
            due("greatest", model.states.stream().mapToInt(state -> state.words.get(word)).max().getAsInt(),
                    () -> x.greatest(word));
        }
    }

    private void compareWaits() {
        int begin = random.nextInt(model.hands.size());
        for (int index = 0; index < model.hands.size(); index++) {
            int hand = (index + begin) % model.hands.size();
            due("canStarve", model.canStarve(hand), () -> x.canStarve(hand));
            for (int number = 0; number < model.hands.size(); number++) {
                int other = number;
                if (hand != other) {
                    due("overtakes", model.overtakes(hand, other), () -> x.overtakes(hand, other));
                }
            }
        }
    }

    private void compareRun() {
        for (int move = 0; move < 15; move++) {
            int hand = random.nextInt(model.hands.size());
            int doing = random.nextInt(8);
            if (doing == 0) {
                compareDeath(hand);
            } else if (doing < 3) {
                compareFlush(hand);
            } else {
                compareAct(hand);
            }
        }
        compareHands();
        due("isSound", true, x::isSound);
        if (random.nextBoolean()) {
            due("start", moves, x::start);
            begin();
        }
        due("checksum", checksum(), x::checksum);
        Integer number = model.numbers.get(run.key());
        if (model.moves.size() == model.states.size()) {
            due("getState", number, x::getState);
        }
    }

    private void compareAct(int hand) {
        List<Model.State> after = model.steps(run, hand);
        int choice = random.nextInt(after.size() + 1);
        if (after.isEmpty()) {
            due("act", CANNOT, () -> x.act(hand, choice));
        } else if (choice == after.size()) {
            due("act", NONE, () -> x.act(hand, choice));
        } else {
            moves++;
            run = after.get(choice);
            due("act", moves, () -> x.act(hand, choice));
        }
    }

    private void compareFlush(int hand) {
        if (run.hands.get(hand).buffer.isEmpty()) {
            due("flush", NONE, () -> x.flush(hand));
        } else {
            moves++;
            run = model.flushed(run, hand);
            due("flush", run.hands.get(hand).buffer.size(), () -> x.flush(hand));
        }
    }

    private void compareDeath(int hand) {
        if (!model.canDie(run, hand)) {
            due("die", CANNOT, () -> x.die(hand));
        } else {
            moves++;
            run = model.dead(run, hand);
            due("die", run.hands.get(hand).next, () -> x.die(hand));
        }
    }

    private void compareHands() {
        for (int index = 0; index < model.hands.size(); index++) {
            int hand = index;
            Model.HandState mine = run.hands.get(hand);
            due("isInside", mine.isInside, () -> x.isInside(hand));
            due("isTrying", mine.isTrying, () -> x.isTrying(hand));
            due("getDecided", mine.decided < 0 ? NONE : mine.decided, () -> x.getDecided(hand));
            due("countBuffered", mine.buffer.size(), () -> x.countBuffered(hand));
            due("countSteps", model.hands.get(hand).size(), () -> x.countSteps(hand));
            due("movesAlone", model.movesAlone(hand), () -> x.movesAlone(hand));
        }
    }

    private long checksum() {
        long sum = 7;
        for (int value : run.words) {
            sum = 31 * sum + value;
        }
        for (Model.HandState hand : run.hands) {
            sum = 31 * sum + hand.next;
            for (int value : hand.registers) {
                sum = 31 * sum + value;
            }
        }
        return 31 * sum + moves;
    }

    private void compareOrders() {
        int many = random.nextInt(7);
        String kinds = random.nextBoolean() ? "wwrr" : random.nextBoolean() ? "eedd" : "wred";
        for (int call = 0; call < many; call++) {
            int begin = random.nextInt(12);
            Model.Call told = new Model.Call(kinds.charAt(random.nextInt(4)), random.nextInt(2), begin,
                    begin + 1 + random.nextInt(8));
            model.calls.add(told);
            due("addCall", call, () -> x.addCall(told.kind(), told.value(), told.begin(), told.end()));
        }
        List<List<Integer>> orders = model.orders();
        due("countOrders", orders.size(), x::countOrders);
        for (int index = 0; index <= many; index++) {
            int at = index;
            due("orderAt", orders.isEmpty() || index == many ? NONE : orders.get(0).get(index), () -> x.orderAt(at));
        }
    }
}
