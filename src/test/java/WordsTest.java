import java.util.ArrayList;
import java.util.Arrays;
import java.util.HashMap;
import java.util.List;
import java.util.Map;
import java.util.Random;

/** Promises 5 to 12 and 14: small machines, by going through all words in order. */
public final class WordsTest {
    /** No word that is sought for machines of up to 4 states is longer. */
    private static final int LONGEST = 9;

    private final int[][] rows;
    private final int inputs;
    private final List<int[]> words;
    private final int[] leastLike;
    /** The sets come to, in the order of the words that first come to them. */
    private final List<Integer> setsInOrder;

    private WordsTest(int[][] rows, List<int[]> words) {
        this.rows = rows;
        inputs = rows[0].length / 2;
        this.words = words;
        leastLike = new int[rows.length];
        for (int s = 0; s < rows.length; s++) {
            while (witness(leastLike[s], this, s) != null) {
                leastLike[s]++;
            }
        }
        setsInOrder = setsInOrder();
    }

    /** Shortest first, of these by the first letter that is not alike. */
    private static List<int[]> allWords(int inputs) {
        List<int[]> all = new ArrayList<>();
        all.add(new int[0]);
        for (int at = 0; all.get(at).length < LONGEST; at++) {
            for (int i = 0; i < inputs; i++) {
                int[] longer = Arrays.copyOf(all.get(at), all.get(at).length + 1);
                longer[longer.length - 1] = i;
                all.add(longer);
            }
        }
        return all;
    }

    private int end(int state, int[] word) {
        int at = state;
        for (int i : word) {
            at = rows[at][2 * i];
        }
        return at;
    }

    private String outputs(int state, int[] word) {
        StringBuilder all = new StringBuilder();
        int at = state;
        for (int i : word) {
            all.append(rows[at][2 * i + 1]);
            at = rows[at][2 * i];
        }
        return all.toString();
    }

    private static char lastOf(String outputs) {
        return outputs.isEmpty() ? ' ' : outputs.charAt(outputs.length() - 1);
    }

    private int[] witness(int state, WordsTest that, int other) {
        for (int[] word : words) {
            if (lastOf(outputs(state, word)) != lastOf(that.outputs(other, word))) {
                return word;
            }
        }
        return null;
    }

    private boolean leadsToOne(int[] word) {
        for (int s = 1; s < rows.length; s++) {
            if (end(s, word) != end(0, word)) {
                return false;
            }
        }
        return true;
    }

    private boolean homes(int[] word) {
        Map<String, Integer> ends = new HashMap<>();
        for (int s = 0; s < rows.length; s++) {
            Integer other = ends.putIfAbsent(outputs(s, word), end(s, word));
            if (other != null && leastLike[other] != leastLike[end(s, word)]) {
                return false;
            }
        }
        return true;
    }

    private List<Integer> setsInOrder() {
        List<Integer> sets = new ArrayList<>();
        for (int[] word : words) {
            int set = leastLike[end(0, word)];
            if (word.length < rows.length && !sets.contains(set)) {
                sets.add(set);
            }
        }
        return sets;
    }

    private static String digits(int[] word) {
        StringBuilder all = new StringBuilder();
        for (int i : word) {
            all.append(i);
        }
        return all.toString();
    }

    private void checkSets(String name, MachineTables x, int m) {
        List<Integer> leastOnes = new ArrayList<>();
        for (int s = 0; s < rows.length; s++) {
            Due.is(name + "like " + s, leastLike[s], x.like(m, s));
            if (leastLike[s] == s) {
                leastOnes.add(s);
            }
            Due.is(name + "part " + s, setsInOrder.indexOf(leastLike[s]), x.part(m, s));
        }
        Due.is(name + "classes", leastOnes.size(), x.classes(m));
        int n = x.least(m);
        Due.is(name + "states of least", setsInOrder.size(), x.total(100 + n));
        for (int set = 0; set < setsInOrder.size(); set++) {
            int state = setsInOrder.get(set);
            for (int i = 0; i < inputs; i++) {
                int next = setsInOrder.indexOf(leastLike[rows[state][2 * i]]);
                Due.is(name + "next of least", next, x.look(n, set, i, 0));
                Due.is(name + "output of least", rows[state][2 * i + 1], x.look(n, set, i, 1));
            }
        }
    }

    private void checkWords(String name, MachineTables x, int m) {
        String before = Tables.word(x);
        int[] reset = first(true);
        Due.is(name + "reset", reset == null ? -1 : reset.length, x.reset(m));
        Due.same(name + "RESET", reset == null ? before : digits(reset), Tables.word(x));
        int[] home = first(false);
        Due.is(name + "home", home.length, x.home(m));
        Due.same(name + "HOMED", digits(home), Tables.word(x));
        for (int s = 0; s < rows.length; s++) {
            Due.is(name + "along " + s, end(s, home), x.along(m, s));
        }
    }

    private int[] first(boolean isForReset) {
        for (int[] word : words) {
            if (isForReset ? leadsToOne(word) : homes(word)) {
                return word;
            }
        }
        return null;
    }

    private void checkWitnesses(String name, MachineTables x, WordsTest that) {
        for (int s = 0; s < rows.length; s++) {
            for (int t = 0; t < that.rows.length; t++) {
                int[] witness = witness(s, that, t);
                String before = Tables.word(x);
                Due.is(name + "alike " + s + " " + t, witness == null, x.alike(0, s, 1, t));
                Due.same(name + "WITNESS " + s + " " + t,
                    witness == null ? before : digits(witness), Tables.word(x));
            }
        }
    }

    /** The arrows of a machine of the object, as rows. */
    private static int[][] read(MachineTables x, int m) {
        int[][] all = new int[x.total(100 + m)][2 * x.total(200 + m)];
        for (int s = 0; s < all.length; s++) {
            for (int at = 0; at < all[s].length; at++) {
                all[s][at] = x.look(m, s, at / 2, at % 2);
            }
        }
        return all;
    }

    private void checkChain(String name, MachineTables x, WordsTest that) {
        WordsTest chained = new WordsTest(read(x, x.chain(0, 1)), words);
        for (int[] word : words) {
            String between = outputs(0, word);
            int[] second = new int[word.length];
            for (int i = 0; i < second.length; i++) {
                second[i] = between.charAt(i) - '0';
            }
            Due.same(name + "outputs of chain", that.outputs(0, second), chained.outputs(0, word));
        }
    }

    private static MachineTables with(WordsTest a, WordsTest b) {
        MachineTables x = new MachineTables();
        Tables.make(x, a.rows);
        Tables.make(x, b.rows);
        return x;
    }

    public static void main(String[] args) {
        List<int[]> words = allWords(2);
        for (int seed = 0; seed < 600; seed++) {
            Random dice = new Random(seed);
            WordsTest a = new WordsTest(Tables.random(dice, 1 + dice.nextInt(4), 2, 2), words);
            WordsTest b = new WordsTest(Tables.random(dice, 1 + dice.nextInt(4), 2, 3), words);
            String name = "seed " + seed + ": ";
            a.checkWitnesses(name, with(a, b), b);
            a.checkSets(name, with(a, b), 0);
            b.checkSets(name, with(a, b), 1);
            a.checkWords(name, with(a, b), 0);
            b.checkWords(name, with(a, b), 1);
            a.checkChain(name, with(a, b), b);
        }
        Due.end();
    }
}
