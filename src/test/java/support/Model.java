import java.util.ArrayDeque;
import java.util.ArrayList;
import java.util.Arrays;
import java.util.HashMap;
import java.util.HashSet;
import java.util.LinkedHashMap;
import java.util.List;
import java.util.Map;
import java.util.NoSuchElementException;
import java.util.Set;
import java.util.TreeMap;
import java.util.TreeSet;

/**
 * The document once more, by other ways than the class goes and with the Java library, so that one
 * can be held against the other.
 */
final class Model {
    static final class Table {
        final int[][] next;
        final int[][] out;

        Table(int states, int inputs) {
            next = new int[states][inputs];
            out = new int[states][inputs];
            for (int s = 0; s < states; s++) {
                Arrays.fill(next[s], s);
            }
        }

        int states() {
            return next.length;
        }

        int inputs() {
            return next[0].length;
        }
    }

    private final List<Table> tables = new ArrayList<>();
    List<Integer> word = List.of();
    /** How many words home() looked at last that were not left out and did not do. */
    int tries;

    private boolean has(int m) {
        return m >= 0 && m < tables.size();
    }

    private boolean has(int m, int state) {
        return has(m) && state >= 0 && state < tables.get(m).states();
    }

    private boolean has(int m, int state, int input) {
        return has(m, state) && input >= 0 && input < tables.get(m).inputs();
    }

    private int keep(Table t) {
        tables.add(t);
        return tables.size() - 1;
    }

    int machine(int states, int inputs) {
        if (states < 1 || states > 40 || inputs < 1 || inputs > 4 || tables.size() == 12) {
            return -1;
        }
        return keep(new Table(states, inputs));
    }

    boolean arrow(int m, int state, int input, int next, int output) {
        if (!has(m, state, input) || !has(m, next) || output < 0 || output > 9) {
            return false;
        }
        tables.get(m).next[state][input] = next;
        tables.get(m).out[state][input] = output;
        return true;
    }

    int look(int m, int state, int input, int what) {
        if (!has(m, state, input) || what < 0 || what > 1) {
            return -1;
        }
        return (what == 0 ? tables.get(m).next : tables.get(m).out)[state][input];
    }

    /** For each two states the length of their witness, 0 if they are like: grown from its end. */
    private static int[][] lengths(Table a, Table b) {
        int[][] length = new int[a.states()][b.states()];
        boolean isGrown = true;
        for (int round = 1; isGrown; round++) {
            isGrown = false;
            for (int s = 0; s < a.states(); s++) {
                for (int t = 0; t < b.states(); t++) {
                    for (int i = 0; i < a.inputs() && length[s][t] == 0; i++) {
                        int behind = length[a.next[s][i]][b.next[t][i]];
                        boolean isTold = round == 1
                            ? a.out[s][i] != b.out[t][i]
                            : behind == round - 1;
                        if (isTold) {
                            length[s][t] = round;
                            isGrown = true;
                        }
                    }
                }
            }
        }
        return length;
    }

    private static int least(int[][] lengths, int state) {
        int t = 0;
        while (lengths[t][state] != 0) {
            t++;
        }
        return t;
    }

    int classes(int m) {
        if (!has(m)) {
            return -1;
        }
        int[][] lengths = lengths(tables.get(m), tables.get(m));
        Set<Integer> sets = new HashSet<>();
        for (int s = 0; s < lengths.length; s++) {
            sets.add(least(lengths, s));
        }
        return sets.size();
    }

    int like(int m, int state) {
        return has(m, state) ? least(lengths(tables.get(m), tables.get(m)), state) : -1;
    }

    boolean alike(int m, int state, int n, int other) {
        if (!has(m, state) || !has(n, other)) {
            throw new IllegalArgumentException();
        }
        Table a = tables.get(m);
        Table b = tables.get(n);
        if (a.inputs() != b.inputs()) {
            throw new IllegalArgumentException();
        }
        int[][] lengths = lengths(a, b);
        if (lengths[state][other] == 0) {
            return true;
        }
        List<Integer> witness = new ArrayList<>();
        int s = state;
        int t = other;
        for (int left = lengths[s][t]; left > 0; left--) {
            int i = 0;
            while (left == 1
                    ? a.out[s][i] == b.out[t][i]
                    : lengths[a.next[s][i]][b.next[t][i]] != left - 1) {
                i++;
            }
            witness.add(i);
            s = a.next[s][i];
            t = b.next[t][i];
        }
        word = witness;
        return false;
    }

    /** The least state of each set that one comes to, with its number. */
    private Map<Integer, Integer> numbers(Table a) {
        int[][] lengths = lengths(a, a);
        Map<Integer, Integer> numbers = new LinkedHashMap<>();
        ArrayDeque<Integer> waiting = new ArrayDeque<>(List.of(0));
        numbers.put(0, 0);
        while (!waiting.isEmpty()) {
            int s = waiting.remove();
            for (int next : a.next[s]) {
                int set = least(lengths, next);
                if (numbers.putIfAbsent(set, numbers.size()) == null) {
                    waiting.add(set);
                }
            }
        }
        return numbers;
    }

    int least(int m) {
        if (!has(m) || tables.size() == 12) {
            return -1;
        }
        Table a = tables.get(m);
        int[][] lengths = lengths(a, a);
        Map<Integer, Integer> numbers = numbers(a);
        Table made = new Table(numbers.size(), a.inputs());
        numbers.forEach((state, number) -> {
            for (int i = 0; i < a.inputs(); i++) {
                made.next[number][i] = numbers.get(least(lengths, a.next[state][i]));
                made.out[number][i] = a.out[state][i];
            }
        });
        return keep(made);
    }

    int part(int m, int state) {
        if (!has(m, state)) {
            return -1;
        }
        return numbers(tables.get(m)).getOrDefault(like(m, state), -1);
    }

    private static List<Integer> longer(List<Integer> word, int input) {
        List<Integer> all = new ArrayList<>(word);
        all.add(input);
        return all;
    }

    int reset(int m) {
        if (!has(m) || tables.get(m).states() > 12) {
            return -1;
        }
        Table a = tables.get(m);
        Set<Integer> all = new TreeSet<>();
        for (int s = 0; s < a.states(); s++) {
            all.add(s);
        }
        Map<Set<Integer>, List<Integer>> known = new HashMap<>();
        ArrayDeque<Set<Integer>> waiting = new ArrayDeque<>();
        known.put(all, List.of());
        waiting.add(all);
        while (!waiting.isEmpty()) {
            Set<Integer> set = waiting.remove();
            if (set.size() == 1) {
                word = known.get(set);
                return word.size();
            }
            for (int i = 0; i < a.inputs(); i++) {
                Set<Integer> next = new TreeSet<>();
                for (int s : set) {
                    next.add(a.next[s][i]);
                }
                if (!known.containsKey(next)) {
                    known.put(next, longer(known.get(set), i));
                    waiting.add(next);
                }
            }
        }
        return -1;
    }

    private static Set<Set<Integer>> greatest(Set<Set<Integer>> sets) {
        Set<Set<Integer>> left = new HashSet<>(sets);
        left.removeIf(s -> sets.stream().anyMatch(t -> t.size() > s.size() && t.containsAll(s)));
        return left;
    }

    private static Set<Set<Integer>> behind(Table a, int[] like, Set<Set<Integer>> sets, int input) {
        Set<Set<Integer>> next = new HashSet<>();
        for (Set<Integer> set : sets) {
            Map<Integer, Set<Integer>> byOutput = new TreeMap<>();
            for (int s : set) {
                byOutput.computeIfAbsent(a.out[s][input], o -> new TreeSet<>())
                    .add(like[a.next[s][input]]);
            }
            next.addAll(byOutput.values());
        }
        return greatest(next);
    }

    int home(int m) {
        if (!has(m) || tables.get(m).states() > 12) {
            return -1;
        }
        Table a = tables.get(m);
        int[] like = new int[a.states()];
        Set<Integer> all = new TreeSet<>();
        for (int s = 0; s < a.states(); s++) {
            like[s] = like(m, s);
            all.add(like[s]);
        }
        tries = 0;
        Map<Set<Set<Integer>>, List<Integer>> known = new HashMap<>();
        ArrayDeque<Set<Set<Integer>>> waiting = new ArrayDeque<>();
        known.put(Set.of(all), List.of());
        waiting.add(Set.of(all));
        while (!waiting.isEmpty()) {
            Set<Set<Integer>> sets = waiting.remove();
            if (sets.stream().allMatch(s -> s.size() == 1)) {
                word = known.get(sets);
                return word.size();
            }
            tries++;
            if (tries == 300) {
                break;
            }
            for (int i = 0; i < a.inputs(); i++) {
                Set<Set<Integer>> next = behind(a, like, sets, i);
                if (!known.containsKey(next)) {
                    known.put(next, longer(known.get(sets), i));
                    waiting.add(next);
                }
            }
        }
        throw new ArithmeticException();
    }

    int chain(int m, int n) {
        if (!has(m) || !has(n) || tables.size() == 12) {
            return -1;
        }
        Table a = tables.get(m);
        Table b = tables.get(n);
        Map<List<Integer>, Integer> numbers = new LinkedHashMap<>();
        List<int[]> arrows = new ArrayList<>();
        List<List<Integer>> pairs = new ArrayList<>();
        numbers.put(List.of(0, 0), 0);
        pairs.add(List.of(0, 0));
        for (int at = 0; at < pairs.size(); at++) {
            int s = pairs.get(at).get(0);
            int t = pairs.get(at).get(1);
            for (int i = 0; i < a.inputs(); i++) {
                int between = a.out[s][i];
                if (between >= b.inputs()) {
                    throw new ArithmeticException();
                }
                List<Integer> next = List.of(a.next[s][i], b.next[t][between]);
                if (numbers.putIfAbsent(next, numbers.size()) == null) {
                    pairs.add(next);
                }
                arrows.add(new int[] {at, i, numbers.get(next), b.out[t][between]});
            }
        }
        if (pairs.size() > 40) {
            throw new ArithmeticException();
        }
        Table made = new Table(pairs.size(), a.inputs());
        for (int[] arrow : arrows) {
            made.next[arrow[0]][arrow[1]] = arrow[2];
            made.out[arrow[0]][arrow[1]] = arrow[3];
        }
        return keep(made);
    }

    int letter(int i) {
        if (i < 0 || i >= word.size()) {
            throw new NoSuchElementException();
        }
        return word.get(i);
    }

    int along(int m, int state) {
        if (!has(m, state)) {
            return -1;
        }
        int at = state;
        for (int input : word) {
            if (input >= tables.get(m).inputs()) {
                return -1;
            }
            at = tables.get(m).next[at][input];
        }
        return at;
    }

    void clear() {
        tables.clear();
    }

    int total(int what) {
        if (what == 0) {
            return tables.size();
        }
        if (what == 1) {
            return word.size();
        }
        for (int m = 0; m < tables.size(); m++) {
            if (what == 100 + m) {
                return tables.get(m).states();
            }
            if (what == 200 + m) {
                return tables.get(m).inputs();
            }
        }
        return -1;
    }
}
