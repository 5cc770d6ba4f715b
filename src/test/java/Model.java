import java.util.ArrayDeque;
import java.util.ArrayList;
import java.util.BitSet;
import java.util.HashMap;
import java.util.HashSet;
import java.util.List;
import java.util.Map;
import java.util.Set;

/**
 * The document told once more, as plainly as it can be and with no regard to time or room, so that the class is
 * compared with something that shares none of its ways.
 */
final class Model {
    record Word(int value, boolean isSafe, int most) {
    }

    record Step(char kind, int a, int b, int c) {
    }

    record Thing(int word, int value) {
    }

    /** A move by the hand's step ('s'), its buffer ('b') or its death ('d'). */
    record Move(int hand, char by, int choice, State to) {
    }

    record Call(char kind, int value, int begin, int end) {
    }

    static final class State {
        final List<Integer> words = new ArrayList<>();
        final List<HandState> hands = new ArrayList<>();

        State copy() {
            State copy = new State();
            copy.words.addAll(words);
            for (HandState hand : hands) {
                copy.hands.add(hand.copy());
            }
            return copy;
        }

        String key() {
            StringBuilder key = new StringBuilder().append(words);
            for (HandState hand : hands) {
                key.append(hand.key());
            }
            return key.toString();
        }
    }

    static final class HandState {
        int next = 0;
        final int[] registers = new int[3];
        boolean isWriting = false;
        boolean isInside = false;
        boolean isTrying = false;
        boolean hasDied = false;
        int decided = -1;
        final List<Thing> buffer = new ArrayList<>();

        HandState copy() {
            HandState copy = new HandState();
            copy.next = next;
            System.arraycopy(registers, 0, copy.registers, 0, 3);
            copy.isWriting = isWriting;
            copy.isInside = isInside;
            copy.isTrying = isTrying;
            copy.hasDied = hasDied;
            copy.decided = decided;
            copy.buffer.addAll(buffer);
            return copy;
        }

        String key() {
            return "|" + next + java.util.Arrays.toString(registers) + isWriting + isInside + isTrying + hasDied + decided
                    + buffer;
        }
    }

    final List<Word> words = new ArrayList<>();
    final List<List<Step>> hands = new ArrayList<>();
    final List<Integer> deaths = new ArrayList<>();
    final List<Call> calls = new ArrayList<>();
    boolean hasBuffers = false;

    final List<State> states = new ArrayList<>();
    final List<List<Move>> moves = new ArrayList<>();
    final List<List<Integer>> targets = new ArrayList<>();
    final List<Integer> rowParents = new ArrayList<>();
    final List<Integer> rowHands = new ArrayList<>();
    final Map<String, Integer> numbers = new HashMap<>();

    State first() {
        State state = new State();
        for (Word word : words) {
            state.words.add(word.value());
        }
        for (int hand = 0; hand < hands.size(); hand++) {
            state.hands.add(new HandState());
        }
        return state;
    }

    boolean hasEnded(State state, int hand) {
        return state.hands.get(hand).next >= hands.get(hand).size();
    }

    Step stepOf(State state, int hand) {
        return hands.get(hand).get(state.hands.get(hand).next);
    }

    private boolean isWrittenByAnother(State state, int reader, int word) {
        for (int hand = 0; hand < hands.size(); hand++) {
            if (hand != reader && state.hands.get(hand).isWriting && stepOf(state, hand).b() == word) {
                return true;
            }
        }
        return false;
    }

    /** All that can come of a hand's step, in order; nothing if it cannot be made. */
    List<State> steps(State state, int hand) {
        List<State> all = new ArrayList<>();
        if (hasEnded(state, hand)) {
            return all;
        }
        Step step = stepOf(state, hand);
        int full = state.hands.get(hand).buffer.size();
        if ("snfy".indexOf(step.kind()) >= 0 && full > 0 || step.kind() == 'w' && full == 2) {
            return all;
        }
        if (step.kind() == 'z') {
            all.add(stepped(state, hand, 0));
            all.add(stepped(state, hand, 1));
        } else if (step.kind() == 'r' && isWrittenByAnother(state, hand, step.b())) {
            for (int value = 0; value <= words.get(step.b()).most(); value++) {
                all.add(stepped(state, hand, value));
            }
        } else if (step.kind() == 'r') {
            int value = state.words.get(step.b());
            for (Thing thing : state.hands.get(hand).buffer) {
                value = thing.word() == step.b() ? thing.value() : value;
            }
            all.add(stepped(state, hand, value));
        } else {
            all.add(stepped(state, hand, -1));
        }
        return all;
    }

    private State stepped(State before, int hand, int given) {
        State state = before.copy();
        HandState mine = state.hands.get(hand);
        Step step = stepOf(state, hand);
        int a = step.a();
        int b = step.b();
        int old = mine.registers[a];
        boolean goesOn = true;
        switch (step.kind()) {
            case 'r', 'z' -> mine.registers[a] = given;
            case 'k' -> mine.registers[a] = b;
            case '+' -> mine.registers[a] = (old + mine.registers[b]) % 10;
            case 'm' -> mine.registers[a] = Math.max(old, mine.registers[b]);
            case 's' -> {
                mine.registers[a] = state.words.get(b);
                state.words.set(b, old);
            }
            case 'n' -> {
                boolean is = state.words.get(b) == old;
                if (is) {
                    state.words.set(b, mine.registers[step.c()]);
                }
                mine.registers[a] = is ? 1 : 0;
            }
            case 'f' -> {
                mine.registers[a] = state.words.get(b);
                state.words.set(b, (state.words.get(b) + 1) % 10);
            }
            case 'w' -> {
                if (hasBuffers) {
                    mine.buffer.add(new Thing(b, old));
                } else if (words.get(b).isSafe() && !mine.isWriting) {
                    mine.isWriting = true;
                    goesOn = false;
                } else {
                    mine.isWriting = false;
                    state.words.set(b, old);
                }
            }
            case 't' -> mine.isTrying = true;
            case 'i' -> {
                mine.isInside = true;
                mine.isTrying = false;
            }
            case 'o' -> mine.isInside = false;
            case 'd' -> mine.decided = old;
            default -> {
            }
        }
        boolean jumps = step.kind() == 'j' || step.kind() == '=' && old == mine.registers[b]
                || step.kind() == '<' && old < mine.registers[b];
        if (goesOn) {
            mine.next = step.kind() == 'h' ? 16 : jumps ? step.c() : mine.next + 1;
        }
        return state;
    }

    State flushed(State before, int hand) {
        State state = before.copy();
        Thing thing = state.hands.get(hand).buffer.remove(0);
        state.words.set(thing.word(), thing.value());
        return state;
    }

    boolean canDie(State state, int hand) {
        return deaths.get(hand) >= 0 && !hasEnded(state, hand) && !state.hands.get(hand).hasDied;
    }

    State dead(State before, int hand) {
        State state = before.copy();
        HandState anew = new HandState();
        anew.hasDied = true;
        anew.decided = state.hands.get(hand).decided;
        anew.next = deaths.get(hand);
        state.hands.set(hand, anew);
        return state;
    }

    private List<Move> movesOf(State state) {
        List<Move> all = new ArrayList<>();
        for (int hand = 0; hand < hands.size(); hand++) {
            int choice = 0;
            for (State to : steps(state, hand)) {
                all.add(new Move(hand, 's', choice, to));
                choice++;
            }
            if (!state.hands.get(hand).buffer.isEmpty()) {
                all.add(new Move(hand, 'b', 0, flushed(state, hand)));
            }
            if (canDie(state, hand)) {
                all.add(new Move(hand, 'd', 0, dead(state, hand)));
            }
        }
        return all;
    }

    /** Answers whether there are no more states than so many; no more are looked for then. */
    boolean explore(int most) {
        states.clear();
        moves.clear();
        targets.clear();
        rowParents.clear();
        rowHands.clear();
        numbers.clear();
        find(first(), -1, -1);
        for (int number = 0; number < states.size(); number++) {
            moves.add(movesOf(states.get(number)));
            targets.add(new ArrayList<>());
            for (Move move : moves.get(number)) {
                targets.get(number).add(find(move.to(), number, move.hand()));
            }
            if (states.size() > most) {
                return false;
            }
        }
        return true;
    }

    private int find(State state, int parent, int hand) {
        Integer known = numbers.get(state.key());
        if (known != null) {
            return known;
        }
        int number = states.size();
        numbers.put(state.key(), number);
        states.add(state);
        rowParents.add(parent);
        rowHands.add(hand);
        return number;
    }

    int countMoves() {
        return moves.stream().mapToInt(List::size).sum();
    }

    List<Integer> ends() {
        List<Integer> ends = new ArrayList<>();
        for (int state = 0; state < states.size(); state++) {
            if (moves.get(state).isEmpty()) {
                ends.add(state);
            }
        }
        return ends;
    }

    int inside(int state) {
        return (int) states.get(state).hands.stream().filter(hand -> hand.isInside).count();
    }

    /** The hands of the row to the state that is asked for, or null. */
    List<Integer> row(int many) {
        List<Integer> shortest = null;
        for (int state = 0; state < states.size(); state++) {
            if (inside(state) == many) {
                List<Integer> row = new ArrayList<>();
                for (int at = state; at != 0; at = rowParents.get(at)) {
                    row.add(0, rowHands.get(at));
                }
                if (shortest == null || row.size() < shortest.size()) {
                    shortest = row;
                }
            }
        }
        return shortest;
    }

    /** The states that can be come to from one by at least one move, staying in some states. */
    private BitSet reached(int from, BitSet within) {
        BitSet reached = new BitSet();
        ArrayDeque<Integer> open = new ArrayDeque<>();
        open.add(from);
        while (!open.isEmpty()) {
            for (int target : targets.get(open.poll())) {
                if (within.get(target) && !reached.get(target)) {
                    reached.set(target);
                    open.add(target);
                }
            }
        }
        return reached;
    }

    private BitSet trying(int hand) {
        BitSet trying = new BitSet();
        for (int state = 0; state < states.size(); state++) {
            trying.set(state, states.get(state).hands.get(hand).isTrying);
        }
        return trying;
    }

    boolean canStarve(int hand) {
        BitSet within = trying(hand);
        List<BitSet> reached = new ArrayList<>();
        for (int state = 0; state < states.size(); state++) {
            reached.add(within.get(state) ? reached(state, within) : new BitSet());
        }
        for (int state = 0; state < states.size(); state++) {
            BitSet circle = new BitSet();
            for (int other = 0; other < states.size(); other++) {
                circle.set(other, reached.get(state).get(other) && reached.get(other).get(state));
            }
            if (!circle.isEmpty() && isFair(circle)) {
                return true;
            }
        }
        return false;
    }

    private boolean isFair(BitSet circle) {
        for (int hand = 0; hand < hands.size(); hand++) {
            boolean isServed = hasEnded(states.get(circle.nextSetBit(0)), hand);
            for (int state = circle.nextSetBit(0); state >= 0; state = circle.nextSetBit(state + 1)) {
                for (int index = 0; index < moves.get(state).size(); index++) {
                    Move move = moves.get(state).get(index);
                    isServed |= move.hand() == hand && move.by() == 's' && circle.get(targets.get(state).get(index));
                }
            }
            if (!isServed) {
                return false;
            }
        }
        return true;
    }

    /** Raises what is known of each state until nothing changes, or more is counted than there are states. */
    int overtakes(int hand, int other) {
        BitSet within = trying(other);
        int[] most = new int[states.size()];
        boolean changes = true;
        while (changes) {
            changes = false;
            for (int state = states.size() - 1; state >= 0; state--) {
                for (int index = 0; index < moves.get(state).size(); index++) {
                    Move move = moves.get(state).get(index);
                    int target = targets.get(state).get(index);
                    if (!within.get(state) || !within.get(target)) {
                        continue;
                    }
                    boolean goesIn = move.hand() == hand && move.by() == 's' && stepOf(states.get(state), hand).kind() == 'i';
                    int count = most[target] + (goesIn ? 1 : 0);
                    if (count > most[state]) {
                        most[state] = count;
                        changes = true;
                    }
                    if (count > states.size()) {
                        return -1;
                    }
                }
            }
        }
        int greatest = 0;
        for (int count : most) {
            greatest = Math.max(greatest, count);
        }
        return greatest;
    }

    Set<Integer> decided(int state) {
        Set<Integer> values = new HashSet<>();
        for (HandState hand : states.get(state).hands) {
            if (hand.decided >= 0) {
                values.add(hand.decided);
            }
        }
        return values;
    }

    int countUndecided() {
        BitSet all = new BitSet();
        all.set(0, states.size());
        int many = 0;
        for (int state = 0; state < states.size(); state++) {
            BitSet reached = reached(state, all);
            reached.set(state);
            Set<Integer> values = new HashSet<>();
            for (int end : ends()) {
                if (reached.get(end)) {
                    values.addAll(decided(end));
                }
            }
            if (values.size() > 1) {
                many++;
            }
        }
        return many;
    }

    int countOutcomes() {
        Set<List<Integer>> outcomes = new HashSet<>();
        for (int end : ends()) {
            List<Integer> row = new ArrayList<>();
            for (HandState hand : states.get(end).hands) {
                for (int value : hand.registers) {
                    row.add(value);
                }
            }
            outcomes.add(row);
        }
        return outcomes.size();
    }

    int movesAlone(int hand) {
        State at = first();
        for (int made = 1; made <= 200; made++) {
            List<State> after = steps(at, hand);
            if (!after.isEmpty()) {
                at = after.get(0);
            } else if (!at.hands.get(hand).buffer.isEmpty()) {
                at = flushed(at, hand);
            } else {
                return -1;
            }
            if (at.hands.get(hand).isInside) {
                return made;
            }
        }
        return -1;
    }

    /** All orders that fit, as they are told. */
    List<List<Integer>> orders() {
        List<List<Integer>> all = new ArrayList<>();
        permute(new ArrayList<>(), all);
        return all;
    }

    private void permute(List<Integer> order, List<List<Integer>> all) {
        if (order.size() == calls.size()) {
            if (fits(order)) {
                all.add(List.copyOf(order));
            }
            return;
        }
        for (int call = 0; call < calls.size(); call++) {
            if (!order.contains(call)) {
                order.add(call);
                permute(order, all);
                order.remove(order.size() - 1);
            }
        }
    }

    private boolean fits(List<Integer> order) {
        for (int early = 0; early < order.size(); early++) {
            for (int late = early + 1; late < order.size(); late++) {
                if (calls.get(order.get(late)).end() < calls.get(order.get(early)).begin()) {
                    return false;
                }
            }
        }
        int word = 0;
        ArrayDeque<Integer> queue = new ArrayDeque<>();
        for (int number : order) {
            Call call = calls.get(number);
            if (call.kind() == 'w') {
                word = call.value();
            } else if (call.kind() == 'e') {
                queue.add(call.value());
            } else if (call.kind() == 'r' && call.value() != word) {
                return false;
            } else if (call.kind() == 'd' && (queue.isEmpty() || queue.poll() != call.value())) {
                return false;
            }
        }
        return true;
    }
}
