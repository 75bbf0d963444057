/** Each sentence of promises 9 to 16 that names a boundary, at that boundary and beside it. */
public final class EdgesOfPromises9To16Test {
    private static final String ARITHMETIC = "throws.ArithmeticException";
    private static final String NO_ELEMENT = "throws.NoSuchElementException";

    /** 1 and 2 are like; 3 is told from 0 by the word 00. */
    private static final int[][] FOUR = {
        {1, 0, 2, 0}, {3, 1, 0, 0}, {3, 1, 0, 0}, {3, 0, 1, 0}
    };
    /** The 300th word not left out is the first that homes. */
    private static final int[][] JUST_HOMED = {
        {1, 0, 1, 0}, {4, 0, 4, 0}, {2, 0, 5, 0}, {5, 0, 2, 1}, {7, 0, 0, 0}, {0, 0, 2, 0},
        {3, 0, 3, 0}, {3, 0, 3, 0}
    };
    /** The 301st would be. */
    private static final int[][] JUST_GIVEN_UP = {
        {6, 0, 6, 0}, {8, 0, 4, 0}, {0, 0, 1, 0}, {4, 0, 3, 0}, {5, 0, 2, 0}, {3, 0, 5, 0},
        {7, 0, 7, 0}, {1, 1, 8, 0}, {2, 0, 0, 0}
    };

    private EdgesOfPromises9To16Test() {
    }

    /** The machine FOUR as number 0, and the word told is 00. */
    private static Run withFour() {
        Run x = new Run();
        x.make(FOUR);
        x.due(false, "alike", 0, 0, 0, 3);
        return x;
    }

    private static void partOfLeast() {
        Sentences.test("Promise 9: part", "Which STATE of LEAST one of a MACHINE is (or would be);"
            + " NONE if there is none such, or one does not come to one that is LIKE it from"
            + " STATE 0.");
        Run x = withFour();
        String before = x.all();
        for (int m : Rows.beyond(1)) {
            x.due(-1, "part", m, 0);
        }
        for (int state : Rows.beyond(4)) {
            x.due(-1, "part", 0, state);
        }
        int[] due = {0, 1, 1, 2};
        for (int s = 0; s < 4; s++) {
            x.due(due[s], "part", 0, s);
        }
        x.stays(before);
        x.due(1, "least", 0);
        x.due(2, "part", 0, 3);
        x.due(2, "part", 1, 2);
        x.due(-1, "part", 1, 3);
        x.fillTo(12);
        x.due(2, "part", 0, 3);
        x.due(0, "part", 11, 0);
        x.due(-1, "part", 12, 0);
        partNotComeTo();
    }

    /** One comes from 0 to 3 alone; 1 is like 3, 2 is like none of them until its output is so. */
    private static void partNotComeTo() {
        Run x = new Run();
        x.make(new int[][] {{3, 0}, {0, 1}, {2, 7}, {0, 1}});
        x.due(0, "part", 0, 0);
        x.due(1, "part", 0, 1);
        x.due(-1, "part", 0, 2);
        x.due(1, "part", 0, 3);
        x.due(true, "arrow", 0, 2, 0, 0, 1);
        x.due(1, "part", 0, 2);
        x.due(1, "machine", 40, 1);
        x.due(0, "part", 1, 39);
        x.due(-1, "part", 1, 40);
        x.due(true, "arrow", 1, 39, 0, 39, 1);
        x.due(-1, "part", 1, 39);
        x.due(true, "arrow", 1, 0, 0, 39, 0);
        x.due(1, "part", 1, 39);
        x.due(-1, "part", 1, 38);
    }

    private static void resetOfAtMost12() {
        Sentences.test("Promise 10: reset",
            "The WORD told is RESET of a MACHINE of at most 12 STATES: its length.");
        for (int n = 11; n <= 14; n++) {
            Run x = withFour();
            x.make(Rows.toZero(n, 2));
            x.due(n <= 12 ? 1 : -1, "reset", 1);
            x.wordIs(n <= 12 ? "0" : "00");
        }
        Run x = withFour();
        x.make(Rows.slowReset(12));
        x.due(121, "reset", 1);
        x.due(121, "total", 1);
        x.due(1, "letter", 0);
        x.due(1, "letter", 120);
        x.due(NO_ELEMENT, "letter", 121);
        x.due(2, "machine", 1, 4);
        x.due(0, "reset", 2);
        x.due(0, "total", 1);
        x.due(3, "machine", 40, 1);
        x.due(-1, "reset", 3);
        x.due(2, "reset", 0);
        x.wordIs("00");
    }

    private static void resetRefused() {
        Sentences.test("Promise 10: reset",
            "NONE, and the WORD stays, if there is none such, or no such MACHINE.");
        Run x = new Run();
        x.make(Rows.slowReset(3));
        x.make(Rows.cycle(2, 4));
        x.make(Rows.toZero(13, 1));
        x.due(-1, "reset", 1);
        x.wordIs("");
        x.due(4, "reset", 0);
        String before = x.all();
        for (int m : Rows.beyond(3)) {
            x.due(-1, "reset", m);
        }
        x.due(-1, "reset", 1);
        x.due(-1, "reset", 2);
        x.stays(before);
        x.wordIs("1001");
        x.due(true, "arrow", 1, 0, 3, 0, 0);
        x.due(1, "reset", 1);
        x.wordIs("3");
    }

    private static void homeOfAtMost12() {
        Sentences.test("Promise 11: home",
            "The WORD told is HOMED of a MACHINE of at most 12 STATES: its length.");
        for (int n = 11; n <= 14; n++) {
            Run x = withFour();
            x.make(Rows.cycle(n, 1));
            x.due(n <= 12 ? n - 1 : -1, "home", 1);
            x.wordIs(n <= 12 ? "0".repeat(n - 1) : "00");
            x.due(2, "machine", n, 4);
            x.due(n <= 12 ? 0 : -1, "home", 2);
            x.wordIs(n <= 12 ? "" : "00");
        }
        Run x = new Run();
        x.due(0, "machine", 1, 1);
        x.due(0, "home", 0);
        x.make(FOUR);
        x.due(2, "home", 1);
        x.wordIs("00");
        x.due(2, "machine", 40, 4);
        x.due(-1, "home", 2);
    }

    private static void homeRefused() {
        Sentences.test("Promise 11: home", "NONE, and the WORD stays, if there is no such MACHINE;"
            + " ArithmeticException: it is given up.");
        Run x = new Run();
        x.make(JUST_HOMED);
        x.make(JUST_GIVEN_UP);
        x.make(Rows.toZero(13, 1));
        x.due(ARITHMETIC, "home", 1);
        x.wordIs("");
        x.due(11, "home", 0);
        String before = x.all();
        for (int m : Rows.beyond(3)) {
            x.due(-1, "home", m);
        }
        x.due(-1, "home", 2);
        x.due(ARITHMETIC, "home", 1);
        x.stays(before);
        x.wordIs("11001100011");
        // One output more tells so much that the machine is homed.
        x.due(true, "arrow", 1, 0, 0, 6, 2);
        x.due(8, "home", 1);
        x.wordIs("00101000");
    }

    private static void chainComes() {
        Sentences.test("Promise 12: chain", "m and n CHAINED: a MACHINE's number.");
        Run x = withFour();
        x.due(1, "chain", 0, 0);
        x.due(2, "total", 201);
        x.due(2, "machine", 1, 1);
        x.due(3, "chain", 2, 2);
        x.machineIs(3, "0/0,");
        x.due(4, "chain", 2, 0);
        x.machineIs(4, "1/0, 2/1, 2/0,");
        x.wordIs("00");
        x.fillTo(11);
        x.due(11, "chain", 2, 0);
        x.due(3, "total", 111);
        x.due(1, "total", 211);
        chainOfTheGreatest();
    }

    private static void chainOfTheGreatest() {
        Run x = new Run();
        x.make(Rows.cycle(40, 4));
        x.make(new int[][] {{0, 7, 0, 8}});
        x.due(2, "chain", 0, 1);
        x.due(40, "total", 102);
        x.due(4, "total", 202);
        for (int i = 0; i < 4; i++) {
            x.due(39, "look", 2, 38, i, 0);
            x.due(7, "look", 2, 38, i, 1);
            x.due(0, "look", 2, 39, i, 0);
            x.due(8, "look", 2, 39, i, 1);
        }
        x.due(3, "chain", 0, 0);
        x.due(40, "total", 103);
        x.due(1, "look", 3, 39, 3, 1);
    }

    private static void chainRefused() {
        Sentences.test("Promise 12: chain", "NONE if there are none such, or there are 12;"
            + " ArithmeticException (asked behind that): an OUTPUT, from a STATE that one comes to,"
            + " is no INPUT of n, or there are more than 40 pairs.");
        Run x = withFour();
        int bad = x.make(new int[][] {{0, 2}});
        String before = x.all();
        for (int m : Rows.beyond(2)) {
            x.due(-1, "chain", m, 0);
            x.due(-1, "chain", 0, m);
            x.due(-1, "chain", m, m);
            x.due(-1, "chain", bad, m);
        }
        x.due(ARITHMETIC, "chain", bad, 0);
        x.stays(before);
        x.fillTo(11);
        x.due(ARITHMETIC, "chain", bad, 0);
        x.due(11, "chain", 0, 0);
        before = x.all();
        x.due(-1, "chain", 0, 0);
        x.due(-1, "chain", bad, 0);
        x.due(-1, "chain", 12, 0);
        x.due(-1, "chain", 0, -1);
        x.stays(before);
        for (int k = 1; k <= 4; k++) {
            outputsOfChain(k);
        }
        outputNotComeTo();
        pairsOfLine();
        pairsOfCycles();
    }

    /** Outputs 0 .. k - 1 are inputs of a machine of k inputs, others are not. */
    private static void outputsOfChain(int k) {
        Run x = new Run();
        x.due(0, "machine", 1, 1);
        x.due(1, "machine", 1, k);
        int made = 2;
        for (int output = 0; output <= 9; output++) {
            x.due(true, "arrow", 0, 0, 0, 0, output);
            x.due(output < k ? made : ARITHMETIC, "chain", 0, 1);
            made += output < k ? 1 : 0;
            x.due(made, "total", 0);
        }
    }

    /** The output that is no input stands at the end of a line, or where the line does not come. */
    private static void outputNotComeTo() {
        Run x = new Run();
        int line = x.make(Rows.line(40, 1));
        int one = x.make(Rows.toZero(1, 1));
        x.due(ARITHMETIC, "chain", line, one);
        x.due(2, "total", 0);
        x.due(true, "arrow", line, 38, 0, 38, 0);
        x.due(2, "chain", line, one);
        x.due(39, "total", 102);
        x.due(true, "arrow", line, 38, 0, 39, 0);
        x.due(true, "arrow", line, 39, 0, 0, 0);
        x.due(3, "chain", line, one);
        x.due(40, "total", 103);
        x.due(0, "look", 3, 39, 0, 0);
    }

    /** A line's end gives one pair more than it has states. */
    private static void pairsOfLine() {
        for (int n = 38; n <= 40; n++) {
            Run x = new Run();
            x.make(Rows.line(n, 1));
            x.make(new int[][] {{0, 0, 1, 0}, {1, 0, 1, 5}});
            x.due(n < 40 ? 2 : ARITHMETIC, "chain", 0, 1);
            x.due(n < 40 ? 3 : 2, "total", 0);
            x.due(n < 40 ? n + 1 : -1, "total", 102);
            x.due(n < 40 ? n : -1, "look", 2, n, 0, 0);
            x.due(n < 40 ? 5 : -1, "look", 2, n, 0, 1);
            x.due(-1, "look", 2, n + 1, 0, 0);
        }
    }

    private static void pairsOfCycles() {
        int[][] sizes = {{39, 1}, {40, 1}, {13, 3}, {8, 5}, {21, 2}, {7, 6}, {40, 39}};
        for (int[] size : sizes) {
            Run x = new Run();
            x.make(Rows.cycle(size[0], 1));
            x.make(Rows.cycle(size[1], 2));
            boolean isTaken = size[0] * size[1] <= 40;
            x.due(isTaken ? 2 : ARITHMETIC, "chain", 0, 1);
            x.due(isTaken ? size[0] * size[1] : -1, "total", 102);
        }
    }

    private static void lettersOfTheWord() {
        Sentences.test("Promise 13: letter", "INPUT i of the WORD told.");
        Run x = new Run();
        x.make(Rows.toldBy("30", "31"));
        x.due(false, "alike", 0, 0, 0, 1);
        x.due(3, "letter", 0);
        x.due(0, "letter", 1);
        x.make(Rows.toldBy("3", "00"));
        x.due(false, "alike", 1, 0, 1, 1);
        x.due(3, "letter", 0);
        x.due(NO_ELEMENT, "letter", 1);
    }

    private static void letterRefused() {
        Sentences.test("Promise 13: letter", "NoSuchElementException: there is none such.");
        Run x = new Run();
        x.make(Rows.cycle(12, 1));
        for (int length = 0; length < 12; length++) {
            if (length > 0) {
                x.due(false, "alike", 0, 11 - length, 0, 12 - length);
            }
            x.due(length, "total", 1);
            for (int i : Rows.beyond(length)) {
                x.due(NO_ELEMENT, "letter", i);
            }
            x.due(length > 0 ? 0 : NO_ELEMENT, "letter", 0);
            x.due(length > 0 ? 0 : NO_ELEMENT, "letter", length - 1);
        }
        x.due(false, "alike", 0, 10, 0, 11);
        x.due(0, "letter", 0);
        x.due(NO_ELEMENT, "letter", 1);
        x.due(NO_ELEMENT, "letter", 10);
    }

    private static void alongTheWord() {
        Sentences.test("Promise 14: along", "Where one comes to from a STATE by the WORD told; NONE"
            + " if there is no such MACHINE or STATE, or an INPUT of the WORD that it has not.");
        Run x = withFour();
        x.make(Rows.cycle(3, 1));
        String before = x.all();
        for (int m : Rows.beyond(2)) {
            x.due(-1, "along", m, 0);
        }
        for (int state : Rows.beyond(4)) {
            x.due(-1, "along", 0, state);
        }
        x.due(3, "along", 0, 0);
        x.due(3, "along", 0, 3);
        x.due(2, "along", 1, 0);
        x.due(1, "along", 1, 2);
        x.due(-1, "along", 1, 3);
        x.stays(before);
        for (String word : new String[] {"0", "1", "2", "3", "00", "03", "30", "33", "12", "21"}) {
            alongWithInputs(word);
        }
        alongTheEmptyWord();
    }

    /** Just those machines go along whose inputs are more than the word's greatest. */
    private static void alongWithInputs(String word) {
        Run x = new Run();
        x.make(Rows.toldBy(word));
        x.due(false, "alike", 0, 0, 0, 1);
        x.wordIs(word);
        int greatest = word.chars().max().getAsInt() - '0';
        for (int k = 1; k <= 4; k++) {
            x.make(Rows.cycle(3, k));
            boolean has = k > greatest;
            x.due(has ? word.length() : -1, "along", k, 0);
            x.due(has ? (2 + word.length()) % 3 : -1, "along", k, 2);
            x.due(-1, "along", k, 3);
        }
    }

    private static void alongTheEmptyWord() {
        Run x = new Run();
        x.due(-1, "along", 0, 0);
        x.make(Rows.cycle(40, 1));
        x.due(0, "along", 0, 0);
        x.due(39, "along", 0, 39);
        x.due(-1, "along", 0, 40);
        x.due(-1, "along", 0, -1);
        x.due(-1, "along", 1, 0);
        x.due(false, "alike", 0, 0, 0, 1);
        x.due(39, "along", 0, 0);
        x.due(38, "along", 0, 39);
    }

    private static void clearAll() {
        Sentences.test("Promise 15: clear", "All MACHINES are gone (the WORD told stays).");
        for (int machines : new int[] {1, 2, 11, 12}) {
            Run x = withFour();
            x.fillTo(machines);
            x.due(null, "clear");
            x.due(0, "total", 0);
            x.due(-1, "total", 100);
            x.due(-1, "total", 99 + machines);
            x.due(-1, "total", 199 + machines);
            x.due(-1, "look", 0, 0, 0, 0);
            x.due(false, "arrow", 0, 0, 0, 0, 0);
            x.due(-1, "part", 0, 0);
            x.due(-1, "along", 0, 0);
            x.due(-1, "chain", 0, 0);
            x.wordIs("00");
        }
        clearThenMake();
        for (int k = 1; k <= 4; k++) {
            for (int n : new int[] {1, 2, 11, 12, 13, 39, 40}) {
                clearTheGreatest(n, k);
            }
        }
        Run x = new Run();
        x.due(null, "clear");
        x.due(0, "total", 0);
        x.due(0, "total", 1);
        x.due(null, "clear");
        x.due(0, "machine", 40, 4);
    }

    /** Numbers begin anew, and nothing of the machines that were there is left. */
    private static void clearThenMake() {
        Run x = withFour();
        x.due(3, "classes", 0);
        x.due(null, "clear");
        x.due(null, "clear");
        x.due(0, "machine", 3, 3);
        x.due(1, "total", 0);
        x.machineIs(0, "0/0,0/0,0/0, 1/0,1/0,1/0, 2/0,2/0,2/0,");
        x.due(1, "classes", 0);
        x.due(-1, "like", 0, 3);
        x.due(2, "along", 0, 2);
        x.due(-1, "classes", 1);
        x.fillTo(12);
        x.due(-1, "machine", 1, 1);
        x.wordIs("00");
    }

    /** A machine that is still comes where one stood whose arrows and sets were all others. */
    private static void clearTheGreatest(int n, int k) {
        Run x = new Run();
        x.make(Rows.loud());
        x.due(40, "classes", 0);
        x.due(null, "clear");
        x.due(0, "machine", n, k);
        boolean isOne = n == 1;
        x.due(!isOne, "arrow", 0, 1, 0, 1, 5);
        x.due(isOne ? 1 : 2, "classes", 0);
        x.due(0, "like", 0, 0);
        x.due(n == 2 ? 1 : 0, "like", 0, n - 1);
        x.due(n != 2, "alike", 0, 0, 0, n - 1);
        x.due(-1, "part", 0, 1);
        x.due(1, "least", 0);
        x.due(1, "total", 101);
        x.due(2, "chain", 0, 0);
        x.due(1, "total", 102);
        x.due(isOne ? 0 : -1, "reset", 0);
        x.due(n > 12 ? -1 : isOne ? 0 : 1, "home", 0);
        x.due(-1, "look", 0, n, 0, 1);
        x.due(-1, "look", 0, 0, k, 1);
    }

    private static void totals() {
        Sentences.test("Promise 16: total", "What 0: MACHINES, 1: the length of the WORD told,"
            + " 100 + m: STATES of MACHINE m, 200 + m: its INPUTS.");
        Run x = new Run();
        for (int m = 0; m < 12; m++) {
            x.due(m, "total", 0);
            x.due(m, "machine", 40 - m, 1 + m % 4);
        }
        x.due(12, "total", 0);
        for (int m = 0; m < 12; m++) {
            x.due(40 - m, "total", 100 + m);
            x.due(1 + m % 4, "total", 200 + m);
        }
        x.due(0, "total", 1);
        x.due(true, "arrow", 0, 0, 0, 0, 1);
        x.due(false, "alike", 0, 0, 0, 1);
        x.due(1, "total", 1);
        x.due(null, "clear");
        x.make(Rows.slowReset(12));
        x.due(121, "reset", 0);
        x.due(121, "total", 1);
        x.due(1, "total", 0);
    }

    private static void totalRefused() {
        Sentences.test("Promise 16: total", "NONE for another what, or if there is none such.");
        for (int machines : new int[] {0, 1, 11, 12}) {
            Run x = new Run();
            x.fillTo(machines);
            for (int what = -3; what <= 330; what++) {
                x.due(totalDue(what, machines), "total", what);
            }
            for (int what : Rows.beyond(330)) {
                x.due(-1, "total", what);
                x.due(-1, "total", what < 0 ? what - 100 : what + 200);
            }
        }
    }

    private static int totalDue(int what, int machines) {
        if (what == 0) {
            return machines;
        }
        boolean isOfOne = what >= 100 && what < 100 + machines
            || what >= 200 && what < 200 + machines;
        return what == 1 ? 0 : isOfOne ? 1 : -1;
    }

    public static void main(String[] args) throws java.io.IOException {
        partOfLeast();
        resetOfAtMost12();
        resetRefused();
        homeOfAtMost12();
        homeRefused();
        chainComes();
        chainRefused();
        lettersOfTheWord();
        letterRefused();
        alongTheWord();
        clearAll();
        totals();
        totalRefused();
        Sentences.checkDocument();
        Due.end();
    }
}
