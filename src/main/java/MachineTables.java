import java.util.Arrays;
import java.util.NoSuchElementException;

/**
 * Machines that go from state to state and tell something at each step. The words in the comments
 * here (like, witness, least, reset, homed, chained) are those of the document.
 */
public final class MachineTables {
    public static final int NONE = -1;

    private static final int MOST_MACHINES = 12;
    private static final int MOST_STATES = 40;
    private static final int MOST_INPUTS = 4;
    private static final int MOST_OUTPUTS = 10;
    private static final int MOST_PAIRS = MOST_STATES * MOST_STATES;
    /** Reset and homed are sought only where a set of states is a mask of so many bits. */
    private static final int MOST_IN_MASK = 12;
    private static final int MOST_MASKS = 1 << MOST_IN_MASK;
    private static final int MOST_TRIES = 300;

    private final Machine[] machines;
    private final Search search;
    private final Families families;
    private int count;
    private int[] word;

    public MachineTables() {
        machines = new Machine[MOST_MACHINES];
        search = new Search();
        families = new Families();
        count = 0;
        word = new int[0];
    }

    public int machine(int states, int inputs) {
        if (states < 1 || states > MOST_STATES || inputs < 1 || inputs > MOST_INPUTS || isFull()) {
            return NONE;
        }
        add(states, inputs);
        return count - 1;
    }

    public boolean arrow(int m, int state, int input, int next, int output) {
        Machine a = find(m);
        if (a == null || !a.hasState(state) || !a.hasInput(input) || !a.hasState(next)) {
            return false;
        }
        if (output < 0 || output >= MOST_OUTPUTS) {
            return false;
        }
        a.setArrow(state, input, next, output);
        return true;
    }

    public int look(int m, int state, int input, int what) {
        Machine a = find(m);
        if (a == null || !a.hasState(state) || !a.hasInput(input)) {
            return NONE;
        }
        if (what == 0) {
            return a.nextOf(state, input);
        }
        return what == 1 ? a.outputOf(state, input) : NONE;
    }

    public int classes(int m) {
        Machine a = find(m);
        if (a == null) {
            return NONE;
        }
        a.settle();
        return a.countSets();
    }

    public int like(int m, int state) {
        Machine a = find(m);
        if (a == null || !a.hasState(state)) {
            return NONE;
        }
        a.settle();
        return a.leastLike(state);
    }

    public boolean alike(int m, int state, int n, int other) throws IllegalArgumentException {
        Machine a = find(m);
        Machine b = find(n);
        if (a == null || b == null || !a.hasState(state) || !b.hasState(other)) {
            throw new IllegalArgumentException("no such machine or state");
        }
        if (a.inputs != b.inputs) {
            throw new IllegalArgumentException("not as many inputs");
        }
        int witness = seekWitness(a, state, b, other);
        if (witness == NONE) {
            return true;
        }
        tell(witness);
        return false;
    }

    public int least(int m) {
        Machine a = find(m);
        if (a == null || isFull()) {
            return NONE;
        }
        a.settle();
        numberSets(a);
        Machine made = add(search.count, a.inputs);
        for (int set = 0; set < made.states; set++) {
            int state = search.placeAt(set);
            for (int input = 0; input < made.inputs; input++) {
                int next = search.numberOf(a.leastLike(a.nextOf(state, input)));
                made.setArrow(set, input, next, a.outputOf(state, input));
            }
        }
        return count - 1;
    }

    public int part(int m, int state) {
        Machine a = find(m);
        if (a == null || !a.hasState(state)) {
            return NONE;
        }
        a.settle();
        numberSets(a);
        return search.numberOf(a.leastLike(state));
    }

    public int reset(int m) {
        Machine a = findSmall(m);
        if (a == null) {
            return NONE;
        }
        int found = seekReset(a);
        return found == NONE ? NONE : tell(found);
    }

    public int home(int m) throws ArithmeticException {
        Machine a = findSmall(m);
        if (a == null) {
            return NONE;
        }
        a.settle();
        int found = seekHomed(a);
        if (found == NONE) {
            throw new ArithmeticException("given up");
        }
        return tell(found);
    }

    public int chain(int m, int n) throws ArithmeticException {
        Machine a = find(m);
        Machine b = find(n);
        if (a == null || b == null || isFull()) {
            return NONE;
        }
        if (!numberPairs(a, b)) {
            throw new ArithmeticException("an output is no input, or too many pairs");
        }
        Machine made = add(search.count, a.inputs);
        for (int state = 0; state < made.states; state++) {
            int pair = search.placeAt(state);
            for (int input = 0; input < made.inputs; input++) {
                int between = a.outputOf(firstOf(pair), input);
                int next = search.numberOf(pairBehind(a, b, pair, input));
                made.setArrow(state, input, next, b.outputOf(secondOf(pair), between));
            }
        }
        return count - 1;
    }

    public int letter(int i) throws NoSuchElementException {
        if (i < 0 || i >= word.length) {
            throw new NoSuchElementException("no such input of the word");
        }
        return word[i];
    }

    public int along(int m, int state) {
        Machine a = find(m);
        if (a == null || !a.hasState(state)) {
            return NONE;
        }
        int at = state;
        for (int i = 0; i < word.length; i++) {
            if (!a.hasInput(word[i])) {
                return NONE;
            }
            at = a.nextOf(at, word[i]);
        }
        return at;
    }

    public void clear() {
        count = 0;
    }

    public int total(int what) {
        if (what == 0) {
            return count;
        }
        if (what == 1) {
            return word.length;
        }
        boolean isOfInputs = what >= 200;
        Machine a = find(what - (isOfInputs ? 200 : 100));
        if (a == null) {
            return NONE;
        }
        return isOfInputs ? a.inputs : a.states;
    }

    private boolean isFull() {
        return count >= MOST_MACHINES;
    }

    private Machine find(int m) {
        return m >= 0 && m < count ? machines[m] : null;
    }

    private Machine findSmall(int m) {
        Machine a = find(m);
        return a == null || a.states > MOST_IN_MASK ? null : a;
    }

    /** Asked only where isFull() is false. What clear() left is used again, to make fewer objects. */
    private Machine add(int states, int inputs) {
        Machine made = machines[count];
        if (made == null) {
            made = new Machine();
            machines[count] = made;
        }
        made.begin(states, inputs);
        count++;
        return made;
    }

    private int tell(int found) {
        word = search.wordTo(found);
        return word.length;
    }

    /** Where the search holds the witness; NONE if the states are like. */
    private int seekWitness(Machine a, int state, Machine b, int other) {
        search.begin(MOST_PAIRS);
        search.reach(pairOf(state, other), 0, 0);
        for (int at = 0; at < search.count && at < MOST_PAIRS; at++) {
            int first = firstOf(search.placeAt(at));
            int second = secondOf(search.placeAt(at));
            for (int input = 0; input < a.inputs; input++) {
                if (a.outputOf(first, input) != b.outputOf(second, input)) {
                    return search.note(at, input);
                }
                search.reach(pairOf(a.nextOf(first, input), b.nextOf(second, input)), at, input);
            }
        }
        return NONE;
    }

    /** Lets the search number the sets of like states, each by its least one, as least does. */
    private void numberSets(Machine a) {
        search.begin(a.states);
        search.reach(a.leastLike(0), 0, 0);
        for (int at = 0; at < search.count && at < MOST_STATES; at++) {
            int state = search.placeAt(at);
            for (int input = 0; input < a.inputs; input++) {
                search.reach(a.leastLike(a.nextOf(state, input)), at, input);
            }
        }
    }

    /** Where the search holds the reset; NONE if there is none. */
    private int seekReset(Machine a) {
        search.begin(1 << a.states);
        search.reach((1 << a.states) - 1, 0, 0);
        for (int at = 0; at < search.count && at < MOST_MASKS; at++) {
            int set = search.placeAt(at);
            if (Integer.bitCount(set) == 1) {
                return at;
            }
            for (int input = 0; input < a.inputs; input++) {
                search.reach(a.reachedFrom(set, input), at, input);
            }
        }
        return NONE;
    }

    /** Where the search holds the homed word; NONE if it is given up. */
    private int seekHomed(Machine a) {
        search.begin(0);
        families.begin(a);
        int found = search.note(0, 0);
        if (families.openOneIsSingles()) {
            return found;
        }
        families.keepOpenOne();
        for (int at = 0; at < families.count && at < MOST_TRIES; at++) {
            for (int input = 0; input < a.inputs; input++) {
                // Each family kept is a word that did not do.
                if (families.count >= MOST_TRIES) {
                    return NONE;
                }
                families.follow(a, at, input);
                if (families.openOneIsKnown()) {
                    continue;
                }
                found = search.note(at, input);
                if (families.openOneIsSingles()) {
                    return found;
                }
                families.keepOpenOne();
            }
        }
        return NONE;
    }

    /** Lets the search number the pairs of a chain; false if there is no such chain. */
    private boolean numberPairs(Machine a, Machine b) {
        search.begin(MOST_PAIRS);
        search.reach(pairOf(0, 0), 0, 0);
        for (int at = 0; at < search.count && at < MOST_STATES; at++) {
            for (int input = 0; input < a.inputs; input++) {
                int pair = pairBehind(a, b, search.placeAt(at), input);
                if (pair == NONE) {
                    return false;
                }
                search.reach(pair, at, input);
            }
        }
        return search.count <= MOST_STATES;
    }

    /** The next pair of a chain; NONE if the first one's output is no input of the second. */
    private static int pairBehind(Machine a, Machine b, int pair, int input) {
        int between = a.outputOf(firstOf(pair), input);
        if (!b.hasInput(between)) {
            return NONE;
        }
        return pairOf(a.nextOf(firstOf(pair), input), b.nextOf(secondOf(pair), between));
    }

    private static int pairOf(int first, int second) {
        return first * MOST_STATES + second;
    }

    private static int firstOf(int pair) {
        return pair / MOST_STATES;
    }

    private static int secondOf(int pair) {
        return pair % MOST_STATES;
    }

    /** One machine's arrows, and which of its states are like. */
    private static final class Machine {
        private final int[] next;
        private final int[] output;
        private final int[] leastOf;
        private final int[] finer;
        private int states;
        private int inputs;
        /** Whether leastOf fits the arrows as they are now. */
        private boolean isSettled;

        Machine() {
            next = new int[MOST_STATES * MOST_INPUTS];
            output = new int[MOST_STATES * MOST_INPUTS];
            leastOf = new int[MOST_STATES];
            finer = new int[MOST_STATES];
        }

        void begin(int newStates, int newInputs) {
            states = newStates;
            inputs = newInputs;
            for (int state = 0; state < states; state++) {
                for (int input = 0; input < inputs; input++) {
                    setArrow(state, input, state, 0);
                }
            }
        }

        boolean hasState(int state) {
            return state >= 0 && state < states;
        }

        boolean hasInput(int input) {
            return input >= 0 && input < inputs;
        }

        int nextOf(int state, int input) {
            return next[state * MOST_INPUTS + input];
        }

        int outputOf(int state, int input) {
            return output[state * MOST_INPUTS + input];
        }

        void setArrow(int state, int input, int newNext, int newOutput) {
            next[state * MOST_INPUTS + input] = newNext;
            output[state * MOST_INPUTS + input] = newOutput;
            isSettled = false;
        }

        /** The states, as a mask, that one comes to from those of a mask. */
        int reachedFrom(int set, int input) {
            int reached = 0;
            for (int state = 0; state < states; state++) {
                if ((set >> state & 1) != 0) {
                    reached |= 1 << nextOf(state, input);
                }
            }
            return reached;
        }

        /** Asked behind settle(). */
        int leastLike(int state) {
            return leastOf[state];
        }

        /** Asked behind settle(). */
        int countSets() {
            int sets = 0;
            for (int state = 0; state < states; state++) {
                if (leastOf[state] == state) {
                    sets++;
                }
            }
            return sets;
        }

        /** Finds which states are like, if an arrow has changed since that was done. */
        void settle() {
            if (isSettled) {
                return;
            }
            Arrays.fill(leastOf, 0, states, 0);
            boolean isSplit = true;
            // Each round that splits leaves one set more, so there are fewer than there are states.
            for (int round = 0; round < states && isSplit; round++) {
                isSplit = splitSets();
            }
            isSettled = true;
        }

        /** Puts apart what one step more tells apart; false if that is nothing. */
        private boolean splitSets() {
            boolean isSplit = false;
            for (int state = 0; state < states; state++) {
                finer[state] = leastThatAgrees(state);
                isSplit |= finer[state] != leastOf[state];
            }
            System.arraycopy(finer, 0, leastOf, 0, states);
            return isSplit;
        }

        private int leastThatAgrees(int state) {
            for (int other = 0; other < state; other++) {
                if (finer[other] == other && isAgreed(other, state)) {
                    return other;
                }
            }
            return state;
        }

        private boolean isAgreed(int state, int other) {
            if (leastOf[state] != leastOf[other]) {
                return false;
            }
            for (int input = 0; input < inputs; input++) {
                if (outputOf(state, input) != outputOf(other, input)) {
                    return false;
                }
                if (leastOf[nextOf(state, input)] != leastOf[nextOf(other, input)]) {
                    return false;
                }
            }
            return true;
        }
    }

    /**
     * Places (states, pairs or sets) in the order in which they are found, each with the step that
     * found it. As those found first are looked at first, with inputs in order, the steps that lead
     * to a place are always its first word.
     */
    private static final class Search {
        private final int[] numbers;
        private final int[] places;
        private final int[] steps;
        private int count;

        /** MOST_MASKS is more than all pairs or tries, so that every search has room. */
        Search() {
            numbers = new int[MOST_MASKS];
            places = new int[MOST_MASKS];
            steps = new int[MOST_MASKS];
        }

        void begin(int placesInAll) {
            Arrays.fill(numbers, 0, placesInAll, NONE);
            count = 0;
        }

        /** A place is come to by an input from the one numbered from (of no matter for the first). */
        void reach(int place, int from, int input) {
            if (numbers[place] == NONE) {
                places[count] = place;
                numbers[place] = note(from, input);
            }
        }

        /** A step that ends at no place that has to be found again. */
        int note(int from, int input) {
            steps[count] = from * MOST_INPUTS + input;
            count++;
            return count - 1;
        }

        int placeAt(int number) {
            return places[number];
        }

        int numberOf(int place) {
            return numbers[place];
        }

        int[] wordTo(int number) {
            int length = 0;
            for (int at = number; at > 0 && length < MOST_MASKS; at = steps[at] / MOST_INPUTS) {
                length++;
            }
            int[] letters = new int[length];
            int at = number;
            for (int i = length - 1; i >= 0; i--) {
                letters[i] = steps[at] % MOST_INPUTS;
                at = steps[at] / MOST_INPUTS;
            }
            return letters;
        }
    }

    /**
     * What the words tried for homed leave: families of sets of states, as ascending masks of which
     * none lies in another. Behind those that are kept one is open, to be kept or written over.
     */
    private static final class Families {
        /**
         * The sets of a family have no more states in all than the machine, for no step makes a set
         * larger: so no family has more sets than MOST_IN_MASK, those left out again counted too.
         */
        private final int[] sets;
        private final int[] sizes;
        private final int[] byOutput;
        private int count;

        Families() {
            sets = new int[MOST_TRIES * MOST_IN_MASK];
            sizes = new int[MOST_TRIES];
            byOutput = new int[MOST_OUTPUTS];
        }

        /** Opens what the empty word leaves: all states in one set. */
        void begin(Machine a) {
            count = 0;
            sizes[0] = 0;
            int all = 0;
            for (int state = 0; state < a.states; state++) {
                all |= 1 << a.leastLike(state);
            }
            put(all);
        }

        void keepOpenOne() {
            count++;
        }

        /** Opens what one input more leaves of a family kept; asked only where there is room. */
        void follow(Machine a, int from, int input) {
            sizes[count] = 0;
            for (int i = 0; i < sizes[from]; i++) {
                putParted(a, sets[from * MOST_IN_MASK + i], input);
            }
        }

        private void putParted(Machine a, int set, int input) {
            Arrays.fill(byOutput, 0);
            for (int state = 0; state < a.states; state++) {
                if ((set >> state & 1) != 0) {
                    byOutput[a.outputOf(state, input)] |= 1 << a.leastLike(a.nextOf(state, input));
                }
            }
            for (int output = 0; output < MOST_OUTPUTS; output++) {
                if (byOutput[output] != 0) {
                    put(byOutput[output]);
                }
            }
        }

        private void put(int set) {
            if (liesInOne(set)) {
                return;
            }
            leaveOutThoseIn(set);
            int base = count * MOST_IN_MASK;
            int at = sizes[count];
            while (at > 0 && sets[base + at - 1] > set) {
                sets[base + at] = sets[base + at - 1];
                at--;
            }
            sets[base + at] = set;
            sizes[count]++;
        }

        private boolean liesInOne(int set) {
            for (int i = 0; i < sizes[count]; i++) {
                if ((set & ~sets[count * MOST_IN_MASK + i]) == 0) {
                    return true;
                }
            }
            return false;
        }

        private void leaveOutThoseIn(int set) {
            int base = count * MOST_IN_MASK;
            int left = 0;
            for (int i = 0; i < sizes[count]; i++) {
                int other = sets[base + i];
                if ((other & ~set) != 0) {
                    sets[base + left] = other;
                    left++;
                }
            }
            sizes[count] = left;
        }

        boolean openOneIsSingles() {
            for (int i = 0; i < sizes[count]; i++) {
                if (Integer.bitCount(sets[count * MOST_IN_MASK + i]) != 1) {
                    return false;
                }
            }
            return true;
        }

        boolean openOneIsKnown() {
            for (int kept = 0; kept < count; kept++) {
                if (openOneIs(kept)) {
                    return true;
                }
            }
            return false;
        }

        private boolean openOneIs(int kept) {
            if (sizes[kept] != sizes[count]) {
                return false;
            }
            for (int i = 0; i < sizes[count]; i++) {
                if (sets[kept * MOST_IN_MASK + i] != sets[count * MOST_IN_MASK + i]) {
                    return false;
                }
            }
            return true;
        }
    }
}
