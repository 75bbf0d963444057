import java.util.Random;

/** Makes machines from rows, and reads the word told. */
final class Tables {
    private Tables() {
    }

    /** Rows hold, for each state, next and output for each input in order. */
    static int make(MachineTables x, int[][] rows) {
        int m = x.machine(rows.length, rows[0].length / 2);
        for (int s = 0; s < rows.length; s++) {
            for (int i = 0; i < rows[s].length / 2; i++) {
                if (!x.arrow(m, s, i, rows[s][2 * i], rows[s][2 * i + 1])) {
                    throw new IllegalStateException("the test's own table is wrong");
                }
            }
        }
        return m;
    }

    /** The word told as digits, "" for the empty one. */
    static String word(MachineTables x) {
        StringBuilder digits = new StringBuilder();
        int length = x.total(1);
        for (int i = 0; i < length; i++) {
            digits.append(x.letter(i));
        }
        return digits.toString();
    }

    /** A machine as text: for each arrow next/output, states parted by blanks. */
    static String text(MachineTables x, int m) {
        StringBuilder all = new StringBuilder();
        for (int s = 0; s < x.total(100 + m); s++) {
            for (int i = 0; i < x.total(200 + m); i++) {
                all.append(x.look(m, s, i, 0)).append('/').append(x.look(m, s, i, 1)).append(',');
            }
            all.append(' ');
        }
        return all.toString().trim();
    }

    /** Shapes that make like states, permutations, long words and parts that are not come to. */
    static int[][] random(Random dice, int states, int inputs, int outputs) {
        int[][] rows = new int[states][2 * inputs];
        int shape = dice.nextInt(5);
        for (int i = 0; i < inputs; i++) {
            int turn = dice.nextInt(states);
            for (int s = 0; s < states; s++) {
                int next = switch (shape) {
                    case 0, 1 -> dice.nextInt(states);
                    case 2 -> (s + (i == 0 ? 1 : turn)) % states;
                    case 3 -> i == 0 ? (s + 1) % states : s == turn ? dice.nextInt(states) : s;
                    default -> dice.nextInt(1 + states / 2);
                };
                boolean isLoud = dice.nextInt(shape == 1 ? 1 : 4) == 0;
                rows[s][2 * i] = next;
                rows[s][2 * i + 1] = isLoud ? dice.nextInt(outputs) : 0;
            }
        }
        if (states > 1 && dice.nextInt(3) == 0) {
            rows[states - 1] = rows[dice.nextInt(states - 1)].clone();
        }
        return rows;
    }
}
