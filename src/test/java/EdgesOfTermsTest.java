/** Each sentence ahead of the promises that names a boundary, at that boundary and beside it. */
public final class EdgesOfTermsTest {
    private static final String ILLEGAL = "throws.IllegalArgumentException";
    private static final String ARITHMETIC = "throws.ArithmeticException";
    private static final String NO_ELEMENT = "throws.NoSuchElementException";

    /** The first word that homes is the 299th, 300th, 301st, 302nd of those not left out. */
    private static final int[][] AT_299 = {
        {1, 0, 0, 0}, {2, 0, 1, 0}, {3, 0, 2, 0}, {4, 0, 1, 0}, {5, 0, 4, 0}, {6, 0, 5, 0},
        {7, 0, 6, 1}, {8, 0, 7, 0}, {0, 0, 8, 0}
    };
    private static final int[][] AT_300 = {
        {1, 0, 1, 0}, {4, 0, 4, 0}, {2, 0, 5, 0}, {5, 0, 2, 1}, {7, 0, 0, 0}, {0, 0, 2, 0},
        {3, 0, 3, 0}, {3, 0, 3, 0}
    };
    private static final int[][] AT_301 = {
        {6, 0, 6, 0}, {8, 0, 4, 0}, {0, 0, 1, 0}, {4, 0, 3, 0}, {5, 0, 2, 0}, {3, 0, 5, 0},
        {7, 0, 7, 0}, {1, 1, 8, 0}, {2, 0, 0, 0}
    };
    private static final int[][] AT_302 = {
        {2, 0, 6, 0}, {0, 0, 1, 0}, {1, 0, 5, 0}, {7, 0, 7, 0}, {5, 0, 3, 0}, {4, 0, 8, 0},
        {3, 0, 2, 0}, {6, 0, 4, 2}, {8, 0, 0, 0}
    };
    /** Would be given up if words that leave the same sets were not left out. */
    private static final int[][] SAME_SETS = {
        {1, 0, 4, 0}, {3, 0, 4, 2}, {2, 0, 0, 0}, {4, 0, 2, 0}, {0, 0, 3, 0}
    };
    /** Would be given up if the same sets, found in another order, were others. */
    private static final int[][] SAME_IN_ANY_ORDER = {
        {1, 0, 0, 1}, {2, 0, 1, 0}, {3, 0, 2, 0}, {4, 0, 3, 0}, {5, 0, 4, 1}, {6, 0, 5, 0},
        {7, 0, 6, 0}, {8, 0, 7, 0}, {0, 0, 8, 0}
    };
    /** Would be given up if like states did not stand as the least of them. */
    private static final int[][] LIKE_AS_LEAST = {
        {7, 0, 5, 0}, {0, 0, 7, 1}, {4, 0, 0, 0}, {5, 0, 7, 0}, {2, 0, 0, 0}, {1, 0, 3, 0},
        {6, 0, 1, 2}, {3, 0, 4, 0}
    };
    /** Would be given up if a set that lies in another one counted. */
    private static final int[][] LIES_IN_ANOTHER = {
        {3, 0, 1, 0}, {5, 0, 5, 0}, {1, 0, 4, 0}, {2, 0, 3, 0}, {0, 0, 2, 1}, {0, 0, 0, 0}
    };
    /** Would be homed in time if sets of one state that lie in no other one did not count. */
    private static final int[][] LIES_IN_NO_OTHER = {
        {5, 0, 5, 0}, {2, 0, 0, 0}, {3, 0, 6, 0}, {4, 0, 2, 1}, {6, 0, 1, 0}, {0, 0, 4, 0},
        {1, 0, 0, 0}
    };

    private EdgesOfTermsTest() {
    }

    private static void whatItIs() {
        Sentences.hasNoBoundary("What it is", "Machines that go from state to state and tell"
            + " something at each step: which states are like each other, the least machine, words"
            + " that tell two apart, that lead all to one state, behind which it is known where one"
            + " is; machines one behind the other.");
        Sentences.test("What it is", "An object is used for at most 512 calls after it has been"
            + " made; what later calls answer is free.");
        lastCallsBehind(Rows.slowReset(12), "121", "reset", 0);
        lastCallsBehind(AT_301, ARITHMETIC, "home", 0);
        lastCallsBehind(Rows.cycle(40, 1), "true", "alike", 0, 39, 0, 39);
        lastCallsBehind(Rows.cycle(40, 4), "40", "classes", 0);
        lastCallsBehind(Rows.line(40, 9), ARITHMETIC, "chain", 0, 0);
        lastCallsBehind(Rows.line(3, 0), "-1", "machine", 41, 1);
        lastCallsBehind(Rows.line(3, 0), NO_ELEMENT, "letter", 0);
        lastCallsThatChange();
    }

    /** One call, again and again: the answers up to the 512th are promised. */
    private static void lastCallsBehind(int[][] rows, String want, String name, int... with) {
        Run x = new Run();
        x.make(rows);
        while (x.calls() < Run.MOST_CALLS) {
            x.due(want, name, with);
        }
        x.freeAnswer(name, with);
    }

    /** Machines come and go, 12 at a time, up to the last call and behind it. */
    private static void lastCallsThatChange() {
        Run x = new Run();
        while (x.calls() < Run.MOST_CALLS) {
            int at = x.calls() % 16;
            if (at < 12) {
                x.due(at, "machine", 40, 4);
            } else if (at < 15) {
                x.due(-1, "least", at - 12);
            } else {
                x.due(null, "clear");
            }
        }
        x.freeAnswer("machine", 40, 4);
    }

    private static void statesAndInputs() {
        Sentences.test("Terms",
            "A MACHINE has STATES 0 .. n - 1 (n is 1 .. 40) and INPUTS 0 .. k - 1 (k is 1 .. 4).");
        for (int n = 1; n <= 40; n++) {
            for (int k = 1; k <= 4; k++) {
                hasJustThese(n, k);
            }
        }
        Run x = new Run();
        for (int k = -1; k <= 6; k++) {
            x.due(-1, "machine", 0, k);
            x.due(-1, "machine", 41, k);
        }
        for (int n = -1; n <= 42; n++) {
            x.due(-1, "machine", n, 0);
            x.due(-1, "machine", n, 5);
        }
        x.due(0, "total", 0);
    }

    private static void hasJustThese(int n, int k) {
        Run x = new Run();
        x.due(0, "machine", n, k);
        x.due(n, "total", 100);
        x.due(k, "total", 200);
        x.due(0, "look", 0, 0, 0, 0);
        x.due(n - 1, "look", 0, n - 1, k - 1, 0);
        x.due(-1, "look", 0, -1, 0, 0);
        x.due(-1, "look", 0, n, 0, 0);
        x.due(-1, "look", 0, 0, -1, 0);
        x.due(-1, "look", 0, 0, k, 0);
        x.due(n - 1, "along", 0, n - 1);
        x.due(-1, "along", 0, n);
        x.due(true, "arrow", 0, n - 1, k - 1, n - 1, 9);
        x.due(false, "arrow", 0, n, k - 1, n - 1, 9);
        x.due(false, "arrow", 0, n - 1, k, n - 1, 9);
        x.due(false, "arrow", 0, n - 1, k - 1, n, 9);
    }

    private static void arrowsAtFirst() {
        Sentences.test("Terms", "For each STATE and INPUT an ARROW: the next STATE and an OUTPUT"
            + " 0 .. 9 (at first the STATE itself, and 0).");
        Run x = new Run();
        x.make(Rows.cycle(3, 2));
        x.due(null, "clear");
        x.due(0, "machine", 40, 4);
        for (int s = 0; s < 40; s++) {
            for (int i = 0; i < 4; i++) {
                x.due(s, "look", 0, s, i, 0);
                x.due(0, "look", 0, s, i, 1);
            }
        }
        for (int output = 0; output <= 9; output++) {
            x.due(true, "arrow", 0, 39, 3, 0, output);
            x.due(output, "look", 0, 39, 3, 1);
        }
        x.due(false, "arrow", 0, 39, 3, 0, -1);
        x.due(false, "arrow", 0, 39, 3, 0, 10);
        x.due(9, "look", 0, 39, 3, 1);
        x.due(0, "look", 0, 39, 3, 0);
    }

    private static void mostMachines() {
        Sentences.test("Terms", "MACHINES have numbers 0, 1, .. (12 at most).");
        twelfthBy("machine", 40, 4);
        twelfthBy("least", 0);
        twelfthBy("chain", 0, 0);
    }

    private static void twelfthBy(String name, int... with) {
        Run x = new Run();
        for (int m = 0; m < 12; m++) {
            x.due(m, m == 0 ? "machine" : name, m == 0 ? new int[] {1, 1} : with);
            x.due(m + 1, "total", 0);
            x.due(-1, "classes", m + 1);
        }
        x.due(-1, name, with);
        x.due(12, "total", 0);
        x.due(1, "classes", 11);
        x.due(-1, "classes", 12);
        x.due(-1, "classes", -1);
        x.due(null, "clear");
        x.due(0, "machine", 1, 1);
        x.due(1, name, with);
    }

    private static void emptyWord() {
        Sentences.test("Terms", "A WORD is a row of INPUTS (none, too).");
        Run x = new Run();
        int one = x.make(Rows.toZero(1, 1));
        int two = x.make(Rows.toZero(2, 1));
        int told = x.make(new int[][] {{0, 0, 0, 0}, {0, 3, 0, 0}});
        for (String name : new String[] {"reset", "home"}) {
            int longer = name.equals("reset") ? two : told;
            x.due(1, name, longer);
            x.due(0, "letter", 0);
            x.due(NO_ELEMENT, "letter", 1);
            x.due(0, "along", longer, 1);
            x.due(0, name, one);
            x.due(0, "total", 1);
            x.due(NO_ELEMENT, "letter", 0);
            x.due(NO_ELEMENT, "letter", -1);
            x.due(1, "along", longer, 1);
        }
    }

    private static void orderOfWords() {
        Sentences.test("Terms", "Of several WORDS the shortest comes first, of these the one whose"
            + " first INPUT that is not alike is the lesser one.");
        String[][] firstOfThese = {
            {"00"}, {"33"}, {"3", "00"}, {"0", "33"}, {"03", "10"}, {"12", "13", "20"},
            {"12", "20", "13"}, {"2", "3", "00", "10"}, {"30", "31"}, {"23", "30", "31", "32"}
        };
        for (String[] words : firstOfThese) {
            Run x = new Run();
            x.make(Rows.toldBy(words));
            x.due(false, "alike", 0, 0, 0, 1);
            x.wordIs(words[0]);
            x.due(false, "alike", 0, 1, 0, 0);
            x.wordIs(words[0]);
        }
        orderOfResets();
    }

    /** All come to one state by 1, 2 and 00; by 00 and 11; by 11 alone; by none. */
    private static void orderOfResets() {
        Run x = new Run();
        x.make(new int[][] {{1, 0, 2, 0, 0, 0}, {2, 0, 2, 0, 0, 0}, {2, 0, 2, 0, 0, 0}});
        x.due(1, "reset", 0);
        x.wordIs("1");
        x.make(new int[][] {{1, 0, 0, 0}, {2, 0, 0, 0}, {2, 0, 1, 0}});
        x.due(2, "reset", 1);
        x.wordIs("00");
        x.make(new int[][] {{1, 0, 0, 0}, {2, 0, 0, 0}, {0, 0, 1, 0}});
        x.due(2, "reset", 2);
        x.wordIs("11");
        x.make(new int[][] {{1, 0, 0, 0}, {2, 0, 1, 0}, {0, 0, 2, 0}});
        x.due(-1, "reset", 3);
        x.wordIs("11");
    }

    private static void likeStates() {
        Sentences.test("Terms", "LIKE are two STATES, of one MACHINE or of two with as many INPUTS,"
            + " if by each WORD the last OUTPUT is the same from both.");
        for (int k = 1; k <= 4; k++) {
            asManyInputs(k);
        }
        Run x = new Run();
        int told = x.make(Rows.line(40, 1));
        int silent = x.make(Rows.line(40, 0));
        x.due(40, "classes", told);
        x.due(1, "classes", silent);
        x.due(false, "alike", told, 0, told, 1);
        x.due(1, "like", told, 1);
        x.due(true, "alike", silent, 0, silent, 39);
        x.due(0, "like", silent, 39);
        x.due(true, "alike", told, 39, told, 39);
        x.due(false, "alike", told, 0, silent, 0);
        likeByAllPairs();
        likeBesideOthers();
    }

    /** States 0 and 2 are like, whatever those next to them do. */
    private static void likeBesideOthers() {
        Run x = new Run();
        x.due(0, "machine", 4, 4);
        x.due(true, "arrow", 0, 1, 0, 3, 1);
        x.due(true, "alike", 0, 0, 0, 2);
        x.due(true, "alike", 0, 2, 0, 3);
        x.due(false, "alike", 0, 1, 0, 2);
        x.due(0, "like", 0, 2);
        x.due(2, "classes", 0);
        x.due(-1, "part", 0, 1);
    }

    /** One machine goes on by both inputs, one by the first alone: all 1600 pairs are come to. */
    private static void likeByAllPairs() {
        Run x = new Run();
        int both = x.make(silentCycle(2));
        int first = x.make(silentCycle(1));
        x.due(true, "alike", both, 0, first, 0);
        x.due(true, "alike", both, 39, first, 39);
        x.due(true, "arrow", both, 39, 1, 0, 1);
        x.due(false, "alike", both, 0, first, 0);
        x.wordIs("0".repeat(39) + "1");
        x.due(true, "arrow", both, 39, 1, 0, 0);
        x.due(true, "arrow", first, 39, 0, 0, 9);
        x.due(false, "alike", first, 0, both, 0);
        x.wordIs("0".repeat(40));
    }

    private static int[][] silentCycle(int inputsThatGoOn) {
        int[][] rows = new int[40][4];
        for (int s = 0; s < 40; s++) {
            rows[s][0] = (s + 1) % 40;
            rows[s][2] = inputsThatGoOn > 1 ? (s + 1) % 40 : s;
        }
        return rows;
    }

    private static void asManyInputs(int k) {
        Run x = new Run();
        for (int inputs = 1; inputs <= 4; inputs++) {
            x.due(inputs - 1, "machine", 2, inputs);
        }
        for (int inputs = 1; inputs <= 4; inputs++) {
            x.due(inputs == k ? true : ILLEGAL, "alike", k - 1, 0, inputs - 1, 1);
        }
        x.due(4, "machine", 1, k);
        x.due(true, "alike", 4, 0, k - 1, 1);
        x.due(true, "arrow", 4, 0, k - 1, 0, 9);
        x.due(false, "alike", 4, 0, k - 1, 1);
        x.wordIs(Integer.toString(k - 1));
    }

    /** The longest that there is: as long as both machines have states in all, but for one. */
    private static void longestWitness() {
        Sentences.test("Terms",
            "A WITNESS: the first WORD by which the last OUTPUTS are not the same.");
        Run x = new Run();
        int forty = x.make(Rows.cycle(40, 1));
        int[][] rows = Rows.cycle(40, 1);
        rows[39][0] = 1;
        int tailed = x.make(rows);
        x.due(false, "alike", forty, 0, tailed, 0);
        x.wordIs("0".repeat(79));
        x.due(false, "alike", forty, 39, forty, 38);
        x.wordIs("0");
        x.due(false, "alike", forty, 0, forty, 1);
        x.wordIs("0".repeat(39));
        x.due(true, "arrow", tailed, 39, 0, 0, 1);
        x.due(true, "alike", forty, 0, tailed, 0);
        x.wordIs("0".repeat(39));
    }

    private static void leastMachine() {
        Sentences.test("Terms", "LEAST of a MACHINE is a MACHINE: its STATES are the sets of LIKE"
            + " ones among those that one comes to from STATE 0 (itself, too), numbered as they are"
            + " first come to: that of STATE 0 is 0; then those found first are looked at first,"
            + " with all INPUTS in order.");
        Run x = new Run();
        int[][] back = new int[40][2];
        for (int s = 0; s < 40; s++) {
            back[s] = new int[] {(s + 39) % 40, s == 1 ? 1 : 0};
        }
        int all = x.make(back);
        x.due(1, "least", all);
        x.due(40, "total", 101);
        x.due(39, "part", all, 1);
        x.due(1, "part", all, 39);
        x.due(1, "look", 1, 39, 0, 1);
        x.due(0, "look", 1, 0, 0, 1);
        x.due(true, "arrow", all, 0, 0, 0, 0);
        x.due(2, "least", all);
        x.machineIs(2, "0/0,");
        x.due(true, "arrow", all, 0, 0, 1, 0);
        x.due(3, "least", all);
        x.machineIs(3, "1/0, 0/1,");
        x.make(new int[][] {{3, 0, 1, 0}, {1, 1, 2, 0}, {2, 2, 2, 0}, {2, 3, 1, 0}});
        x.due(5, "least", 4);
        x.machineIs(5, "1/0,2/0, 3/3,2/0, 2/1,3/0, 3/2,3/0,");
    }

    private static void arrowsOfLeast() {
        Sentences.test("Terms", "ARROWS are those of their STATES.");
        Run x = new Run();
        x.make(new int[][] {{0, 9, 2, 0}, {1, 5, 0, 9}, {2, 5, 0, 9}});
        x.due(1, "least", 0);
        x.machineIs(1, "0/9,1/0, 1/5,0/9,");
        x.make(new int[][] {{0, 9}});
        x.due(3, "least", 2);
        x.machineIs(3, "0/9,");
    }

    private static void resetWord() {
        Sentences.test("Terms", "RESET: the first WORD by which one comes to one and the same STATE"
            + " from all STATES.");
        for (int n = 1; n <= 12; n++) {
            Run x = new Run();
            x.make(Rows.slowReset(n));
            x.due((n - 1) * (n - 1), "reset", 0);
            for (int s = 0; s < n; s++) {
                x.due(0, "along", 0, s);
            }
            if (n > 1) {
                x.due(true, "arrow", 0, n - 1, 1, n - 1, 0);
                x.due(-1, "reset", 0);
            }
        }
    }

    private static void homedWord() {
        Sentences.test("Terms", "HOMED: the first WORD by which, from whatever STATE one goes, all"
            + " STATES from which the OUTPUTS are the same row come to STATES that are LIKE each"
            + " other.");
        Run x = new Run();
        int m = x.make(new int[][] {{1, 0, 0, 0}, {1, 1, 1, 1}, {2, 1, 2, 1}, {2, 0, 3, 5}});
        x.due(1, "home", m);
        x.wordIs("0");
        // One arrow more tells 1 and 2 apart, to which 0 and 3 come with the same row.
        x.due(true, "arrow", m, 2, 1, 2, 2);
        x.due(1, "home", m);
        x.wordIs("1");
        int alone = x.make(Rows.toZero(1, 4));
        x.due(0, "home", alone);
        x.wordIs("");
        int two = x.make(new int[][] {{0, 0}, {1, 9}});
        x.due(1, "home", two);
        x.wordIs("0");
        x.due(true, "arrow", two, 1, 0, 1, 0);
        x.due(0, "home", two);
        x.wordIs("");
        homedByEachOutput();
    }

    /** Input 0 gives the same row from both, whichever output it is of; input 1 does not. */
    private static void homedByEachOutput() {
        for (int output = 0; output <= 9; output++) {
            homedBy("1", new int[][] {{0, output, 0, 0}, {1, output, 1, 9}});
            homedBy("1", new int[][] {{0, output, 0, 0}, {1, output, 1, 1}});
            homedBy("0", new int[][] {{0, output, 0, 0}, {1, (output + 1) % 10, 1, 9}});
        }
    }

    private static void leftOutWords() {
        Sentences.test("Terms", "(It is sought from the empty WORD on, by INPUTS in order; WORDS are"
            + " left out that leave the same sets, of STATES that may be where the OUTPUTS were"
            + " alike, as one ahead; LIKE ones stand as the least of them, and a set that lies in"
            + " another one counts for nothing.");
        homedBy("10010101", SAME_SETS);
        homedBy("1001001010101", SAME_IN_ANY_ORDER);
        homedBy("100100100101", LIKE_AS_LEAST);
        homedBy("10001001011", LIES_IN_ANOTHER);
        givenUp(LIES_IN_NO_OTHER);
        homedBy("", Rows.toZero(12, 4));
    }

    private static void the300thWord() {
        Sentences.test("Terms", "Behind the 300th that is not left out and does not do, the empty"
            + " one counted, it is given up.)");
        homedBy("101010000101", AT_299);
        homedBy("11001100011", AT_300);
        givenUp(AT_301);
        givenUp(AT_302);
    }

    private static void homedBy(String word, int[][] rows) {
        Run x = new Run();
        x.make(rows);
        x.due(word.length(), "home", 0);
        x.wordIs(word);
    }

    private static void givenUp(int[][] rows) {
        Run x = new Run();
        x.make(rows);
        x.due(ARITHMETIC, "home", 0);
        x.wordIs("");
    }

    private static void chained() {
        Sentences.test("Terms", "CHAINED are m and n: at each step the OUTPUT of m is the INPUT of"
            + " n; STATES are pairs that one comes to from both STATES 0, numbered likewise as they"
            + " are first come to; OUTPUTS are those of n.");
        Run x = new Run();
        int m = x.make(new int[][] {{0, 3}});
        int n = x.make(new int[][] {{1, 0, 1, 0, 1, 0, 0, 9}, {1, 1, 1, 1, 1, 1, 1, 1}});
        x.due(2, "chain", m, n);
        x.machineIs(2, "0/9,");
        x.due(true, "arrow", m, 0, 0, 0, 2);
        x.due(3, "chain", m, n);
        x.machineIs(3, "1/0, 1/1,");
        x.due(true, "arrow", m, 0, 0, 0, 4);
        x.due(ARITHMETIC, "chain", m, n);
        int itself = x.make(new int[][] {{1, 1, 0, 0}, {2, 0, 0, 0}, {0, 1, 2, 1}});
        x.due(5, "chain", itself, itself);
        x.machineIs(5, "1/0,2/1, 3/1,2/1, 1/0,4/0, 0/0,5/0, 6/1,0/1, 0/0,5/0, 5/1,0/1,");
    }

    public static void main(String[] args) throws java.io.IOException {
        whatItIs();
        statesAndInputs();
        arrowsAtFirst();
        mostMachines();
        emptyWord();
        orderOfWords();
        Sentences.hasNoBoundary("Terms",
            "By a WORD one goes from a STATE along ARROWS, each time with an OUTPUT.");
        likeStates();
        longestWitness();
        leastMachine();
        arrowsOfLeast();
        resetWord();
        homedWord();
        leftOutWords();
        the300thWord();
        chained();
        Sentences.checkDocument();
        Due.end();
    }
}
