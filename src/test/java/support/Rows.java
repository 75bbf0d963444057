import java.util.Arrays;

/** Machines as rows (for each state next and output for each input), and numbers off the edge. */
final class Rows {
    private Rows() {
    }

    /** Numbers that are not 0 .. n - 1: next to it, far off, and such as wrap round into it. */
    static int[] beyond(int n) {
        int[] all = {
            -1, n, n + 1, -n, -4, 32, 40, 64, 256, -256, 1 << 16, 1 << 29, 1 << 30, -(1 << 30),
            (1 << 30) + 1, Integer.MIN_VALUE, Integer.MIN_VALUE + 1, Integer.MAX_VALUE
        };
        return Arrays.stream(all).filter(i -> i < 0 || i >= n).toArray();
    }

    /** Every arrow leads round, with output 1 from the last state. */
    static int[][] cycle(int states, int inputs) {
        int[][] rows = new int[states][2 * inputs];
        for (int s = 0; s < states; s++) {
            for (int i = 0; i < inputs; i++) {
                rows[s][2 * i] = (s + 1) % states;
                rows[s][2 * i + 1] = s == states - 1 ? 1 : 0;
            }
        }
        return rows;
    }

    /** A line of one input that ends in a loop, whose output alone is told. */
    static int[][] line(int states, int lastOutput) {
        int[][] rows = new int[states][2];
        for (int s = 0; s < states; s++) {
            rows[s][0] = Math.min(s + 1, states - 1);
        }
        rows[states - 1][1] = lastOutput;
        return rows;
    }

    /** The greatest machine, with no two states that are like. */
    static int[][] loud() {
        int[][] rows = new int[40][8];
        for (int s = 0; s < 40; s++) {
            for (int i = 0; i < 4; i++) {
                rows[s][2 * i] = (s + 1) % 40;
                rows[s][2 * i + 1] = s == 39 ? 1 : s % 10;
            }
        }
        return rows;
    }

    /** All arrows lead to state 0, with output 0. */
    static int[][] toZero(int states, int inputs) {
        return new int[states][2 * inputs];
    }

    /** A cycle by input 0, and by input 1 one arrow that leads from the last state to the first. */
    static int[][] slowReset(int states) {
        int[][] rows = new int[states][4];
        for (int s = 0; s < states; s++) {
            rows[s][0] = (s + 1) % states;
            rows[s][2] = s == states - 1 ? 0 : s;
        }
        return rows;
    }

    /**
     * States 0 and 1 are told apart by just those words of two inputs that are given, such as "03",
     * by those of one input, such as "3", and by those that begin with one of them.
     */
    static int[][] toldBy(String... words) {
        int[][] rows = new int[10][8];
        for (int i = 0; i < 4; i++) {
            rows[0][2 * i] = 2 + i;
            rows[1][2 * i] = 6 + i;
            for (int s = 2; s < 10; s++) {
                rows[s][2 * i] = s;
            }
        }
        for (String word : words) {
            int first = word.charAt(0) - '0';
            int state = word.length() == 1 ? 1 : 6 + first;
            int last = word.charAt(word.length() - 1) - '0';
            rows[state][2 * last + 1] = 1;
        }
        return rows;
    }
}
