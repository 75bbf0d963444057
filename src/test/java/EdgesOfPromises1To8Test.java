/** Each sentence of promises 1 to 8 that names a boundary, at that boundary and beside it. */
public final class EdgesOfPromises1To8Test {
    private static final String ILLEGAL = "throws.IllegalArgumentException";
    private static final String NO_ELEMENT = "throws.NoSuchElementException";

    /** 1 and 2 are like; 3 is told from 0 by the word 00. */
    private static final int[][] FOUR = {
        {1, 0, 2, 0}, {3, 1, 0, 0}, {3, 1, 0, 0}, {3, 0, 1, 0}
    };
    private static final String FOUR_TEXT = "1/0,2/0, 3/1,0/0, 3/1,0/0, 3/0,1/0,";

    private EdgesOfPromises1To8Test() {
    }

    /** The machine FOUR as number 0, and the word told is 00. */
    private static Run withFour() {
        Run x = new Run();
        x.make(FOUR);
        x.due(false, "alike", 0, 0, 0, 3);
        return x;
    }

    private static void newObject() {
        Sentences.test("Promise 1: A new object", "No MACHINES; the WORD told is the empty one.");
        withFour();
        Run x = new Run();
        x.due(0, "total", 0);
        x.due(-1, "total", 100);
        x.due(-1, "total", 200);
        x.due(-1, "look", 0, 0, 0, 0);
        x.due(false, "arrow", 0, 0, 0, 0, 0);
        x.due(-1, "classes", 0);
        x.due(-1, "like", 0, 0);
        x.due(ILLEGAL, "alike", 0, 0, 0, 0);
        x.due(-1, "least", 0);
        x.due(-1, "part", 0, 0);
        x.due(-1, "reset", 0);
        x.due(-1, "home", 0);
        x.due(-1, "chain", 0, 0);
        x.due(-1, "along", 0, 0);
        x.due(0, "total", 1);
        x.due(NO_ELEMENT, "letter", 0);
        x.due(NO_ELEMENT, "letter", -1);
        x.due(0, "machine", 2, 1);
        x.due(1, "total", 0);
        x.due(1, "along", 0, 1);
        newBesideAnOlder();
    }

    /** Nothing of one object is another's, though they take turns. */
    private static void newBesideAnOlder() {
        Run older = withFour();
        String before = older.all();
        Run x = new Run();
        older.stays(before);
        older.due(3, "classes", 0);
        x.due(0, "total", 0);
        x.due(0, "total", 1);
        x.make(Rows.cycle(3, 1));
        x.due(3, "classes", 0);
        x.due(false, "alike", 0, 1, 0, 2);
        older.stays(before);
        older.due(1, "least", 0);
        x.due(1, "total", 0);
        x.wordIs("0");
        x.machineIs(0, "1/0, 2/0, 0/1,");
        x.due(null, "clear");
        older.due(2, "total", 0);
        older.wordIs("00");
        older.machineIs(0, FOUR_TEXT);
    }

    private static void machineComes() {
        Sentences.test("Promise 2: machine", "A MACHINE comes: its number.");
        Run x = new Run();
        x.due(0, "machine", 1, 1);
        x.due(1, "machine", 40, 4);
        x.due(-1, "machine", 41, 4);
        x.due(2, "machine", 40, 1);
        x.due(-1, "machine", 40, 0);
        x.due(3, "machine", 1, 4);
        x.due(4, "total", 0);
        x.due(1, "total", 100);
        x.due(40, "total", 101);
        x.due(4, "total", 201);
        x.due(4, "total", 203);
        x.due(-1, "total", 104);
        for (int m = 4; m < 12; m++) {
            x.due(m, "machine", 2, 2);
        }
        x.due(null, "clear");
        x.due(0, "machine", 2, 2);
    }

    private static void machineRefused() {
        Sentences.test("Promise 2: machine", "NONE if there are no such n, k, or 12 MACHINES.");
        Run x = withFour();
        String before = x.all();
        for (int n : Rows.beyond(41)) {
            x.due(-1, "machine", n, 2);
        }
        x.due(-1, "machine", 0, 2);
        for (int k : Rows.beyond(5)) {
            x.due(-1, "machine", 2, k);
        }
        x.due(-1, "machine", 2, 0);
        x.due(-1, "machine", 0, 0);
        x.due(-1, "machine", 41, 5);
        x.due(-1, "machine", 41, 4);
        x.due(-1, "machine", 40, 5);
        x.stays(before);
        x.due(1, "machine", 40, 4);
        x.due(2, "machine", 1, 1);
        machineWhenFull();
    }

    private static void machineWhenFull() {
        Run x = withFour();
        x.fillTo(10);
        x.due(10, "machine", 2, 2);
        x.due(11, "machine", 2, 2);
        String before = x.all();
        x.due(-1, "machine", 2, 2);
        x.due(-1, "machine", 1, 1);
        x.due(-1, "machine", 41, 1);
        x.stays(before);
    }

    private static void arrowRefused() {
        Sentences.test("Promise 3: arrow", "An ARROW of a MACHINE: true; false, changing nothing,"
            + " if there are no such MACHINE, STATES, INPUT, OUTPUT.");
        Run x = withFour();
        x.make(Rows.cycle(3, 3));
        String before = x.all();
        for (int m : Rows.beyond(2)) {
            x.due(false, "arrow", m, 0, 0, 0, 5);
        }
        for (int state : Rows.beyond(4)) {
            x.due(false, "arrow", 0, state, 0, 0, 5);
            x.due(false, "arrow", 0, 0, 0, state, 5);
        }
        for (int input : Rows.beyond(2)) {
            x.due(false, "arrow", 0, 1, input, 0, 5);
        }
        for (int output : Rows.beyond(10)) {
            x.due(false, "arrow", 0, 0, 0, 0, output);
        }
        x.due(false, "arrow", 1, 3, 0, 0, 5);
        x.due(false, "arrow", 1, 0, 3, 0, 5);
        x.due(false, "arrow", 1, 0, 0, 3, 5);
        x.stays(before);
        x.due(3, "classes", 0);
        arrowTaken();
    }

    /** The same calls, one step back from the edge, are taken; they change just one arrow. */
    private static void arrowTaken() {
        Run x = withFour();
        x.make(Rows.toZero(3, 3));
        x.due(true, "arrow", 0, 0, 0, 0, 0);
        x.due(true, "arrow", 0, 3, 1, 3, 9);
        x.machineIs(0, "0/0,2/0, 3/1,0/0, 3/1,0/0, 3/0,3/9,");
        x.due(true, "arrow", 1, 2, 2, 2, 9);
        x.due(true, "arrow", 1, 0, 0, 2, 0);
        x.machineIs(1, "2/0,0/0,0/0, 0/0,0/0,0/0, 0/0,0/0,2/9,");
        x.machineIs(0, "0/0,2/0, 3/1,0/0, 3/1,0/0, 3/0,3/9,");
    }

    private static void lookAtAnArrow() {
        Sentences.test("Promise 4: look",
            "Of the ARROW of a STATE and INPUT, what 0: the next STATE, 1: the OUTPUT.");
        Run x = withFour();
        int last = x.make(Rows.toZero(40, 1));
        x.due(true, "arrow", last, 39, 0, 39, 9);
        x.due(3, "look", 0, 1, 0, 0);
        x.due(1, "look", 0, 1, 0, 1);
        x.due(1, "look", 0, 3, 1, 0);
        x.due(0, "look", 0, 3, 1, 1);
        x.due(39, "look", last, 39, 0, 0);
        x.due(9, "look", last, 39, 0, 1);
        x.due(0, "look", last, 38, 0, 0);
        x.due(0, "look", last, 38, 0, 1);
    }

    private static void lookRefused() {
        Sentences.test("Promise 4: look", "NONE if there is none such, or for another what.");
        Run x = withFour();
        x.make(Rows.cycle(3, 3));
        String before = x.all();
        for (int m : Rows.beyond(2)) {
            x.due(-1, "look", m, 0, 0, 0);
        }
        for (int state : Rows.beyond(4)) {
            x.due(-1, "look", 0, state, 0, 0);
            x.due(-1, "look", 0, state, 0, 1);
        }
        for (int input : Rows.beyond(2)) {
            x.due(-1, "look", 0, 1, input, 0);
            x.due(-1, "look", 0, 0, input, 1);
        }
        for (int what : Rows.beyond(2)) {
            x.due(-1, "look", 0, 0, 0, what);
        }
        x.due(-1, "look", 1, 3, 0, 0);
        x.due(-1, "look", 1, 0, 3, 0);
        x.due(0, "look", 1, 2, 2, 0);
        x.due(1, "look", 1, 2, 2, 1);
        x.due(-1, "look", 1, 2, 2, 2);
        x.stays(before);
    }

    private static void classesOfAll() {
        Sentences.test("Promise 5: classes", "The number of sets of LIKE STATES that a MACHINE has"
            + " (all of its STATES); NONE if there is none such.");
        Run x = withFour();
        String before = x.all();
        for (int m : Rows.beyond(1)) {
            x.due(-1, "classes", m);
        }
        x.due(3, "classes", 0);
        x.stays(before);
        x.due(1, "machine", 40, 4);
        x.due(1, "classes", 1);
        x.due(-1, "classes", 2);
        // State 39 is not come to, and counts all the same.
        x.due(true, "arrow", 1, 39, 3, 39, 1);
        x.due(2, "classes", 1);
        x.make(Rows.cycle(40, 1));
        x.due(40, "classes", 2);
        x.due(true, "arrow", 2, 39, 0, 0, 0);
        x.due(1, "classes", 2);
        x.due(3, "machine", 1, 1);
        x.due(1, "classes", 3);
        x.fillTo(12);
        x.due(1, "classes", 11);
        x.due(-1, "classes", 12);
    }

    private static void leastLike() {
        Sentences.test("Promise 6: like",
            "The least STATE of a MACHINE that is LIKE one of it; NONE if there is none such.");
        Run x = withFour();
        String before = x.all();
        for (int m : Rows.beyond(1)) {
            x.due(-1, "like", m, 0);
        }
        for (int state : Rows.beyond(4)) {
            x.due(-1, "like", 0, state);
        }
        int[] due = {0, 1, 1, 3};
        for (int s = 0; s < 4; s++) {
            x.due(due[s], "like", 0, s);
        }
        x.stays(before);
        x.due(1, "machine", 40, 1);
        x.due(0, "like", 1, 39);
        x.due(-1, "like", 1, 40);
        x.due(-1, "like", 1, -1);
        x.due(true, "arrow", 1, 39, 0, 39, 9);
        x.due(39, "like", 1, 39);
        x.due(0, "like", 1, 38);
        x.due(true, "arrow", 1, 38, 0, 38, 9);
        x.due(38, "like", 1, 39);
        x.due(2, "machine", 1, 1);
        x.due(0, "like", 2, 0);
        x.due(-1, "like", 2, 1);
    }

    private static void alikeAndTheWord() {
        Sentences.test("Promise 7: alike", "Whether a STATE of m and one of n are LIKE; if they are"
            + " not, the WORD told is their WITNESS.");
        Run x = withFour();
        x.due(true, "alike", 0, 1, 0, 2);
        x.due(true, "alike", 0, 0, 0, 0);
        x.due(true, "alike", 0, 3, 0, 3);
        x.wordIs("00");
        x.due(false, "alike", 0, 2, 0, 3);
        x.wordIs("0");
        x.due(false, "alike", 0, 3, 0, 0);
        x.wordIs("00");
        x.make(FOUR);
        x.due(true, "alike", 0, 1, 1, 2);
        x.wordIs("00");
        x.due(false, "alike", 0, 1, 1, 0);
        x.wordIs("0");
        x.due(true, "arrow", 1, 3, 1, 1, 9);
        x.due(false, "alike", 0, 3, 1, 3);
        x.wordIs("1");
        x.due(false, "alike", 0, 1, 1, 1);
        x.wordIs("01");
        x.machineIs(0, FOUR_TEXT);
    }

    private static void alikeRefused() {
        Sentences.test("Promise 7: alike",
            "IllegalArgumentException: there are none such, or not as many INPUTS.");
        Run x = withFour();
        x.make(Rows.cycle(2, 1));
        x.make(Rows.cycle(2, 3));
        String before = x.all();
        for (int m : Rows.beyond(3)) {
            x.due(ILLEGAL, "alike", m, 0, 0, 0);
            x.due(ILLEGAL, "alike", 0, 0, m, 0);
            x.due(ILLEGAL, "alike", m, 0, m, 0);
        }
        for (int state : Rows.beyond(4)) {
            x.due(ILLEGAL, "alike", 0, state, 0, 0);
            x.due(ILLEGAL, "alike", 0, 0, 0, state);
            x.due(ILLEGAL, "alike", 0, state, 0, state);
        }
        int[] inputs = {2, 1, 3};
        for (int m = 0; m < 3; m++) {
            for (int n = 0; n < 3; n++) {
                x.due(inputs[m] == inputs[n] ? true : ILLEGAL, "alike", m, 1, n, 1);
            }
        }
        x.due(ILLEGAL, "alike", 1, 2, 1, 0);
        x.due(ILLEGAL, "alike", 2, 0, 2, 2);
        x.stays(before);
        x.due(false, "alike", 2, 1, 2, 0);
        x.due(true, "alike", 0, 3, 0, 3);
    }

    private static void leastComes() {
        Sentences.test("Promise 8: least", "LEAST of a MACHINE: its number.");
        Run x = withFour();
        x.due(1, "least", 0);
        x.machineIs(1, "1/0,1/0, 2/1,0/0, 2/0,1/0,");
        x.due(2, "least", 1);
        x.machineIs(2, "1/0,1/0, 2/1,0/0, 2/0,1/0,");
        x.machineIs(0, FOUR_TEXT);
        x.wordIs("00");
        x.due(3, "machine", 1, 4);
        x.due(4, "least", 3);
        x.machineIs(4, "0/0,0/0,0/0,0/0,");
        x.fillTo(11);
        x.due(11, "least", 0);
        x.due(3, "total", 111);
        x.due(2, "total", 211);
        leastOfTheGreatest();
    }

    private static void leastOfTheGreatest() {
        Run x = new Run();
        x.make(Rows.cycle(40, 4));
        x.due(1, "least", 0);
        x.due(40, "total", 101);
        x.due(4, "total", 201);
        for (int i = 0; i < 4; i++) {
            x.due(39, "look", 1, 38, i, 0);
            x.due(0, "look", 1, 38, i, 1);
            x.due(0, "look", 1, 39, i, 0);
            x.due(1, "look", 1, 39, i, 1);
        }
        x.due(true, "alike", 0, 39, 1, 39);
        x.due(true, "arrow", 0, 39, 3, 0, 0);
        x.due(2, "least", 0);
        x.due(40, "total", 102);
        x.due(0, "look", 2, 39, 3, 1);
        x.due(1, "look", 2, 39, 2, 1);
    }

    private static void leastRefused() {
        Sentences.test("Promise 8: least", "NONE if there is none such, or there are 12.");
        Run x = withFour();
        String before = x.all();
        for (int m : Rows.beyond(1)) {
            x.due(-1, "least", m);
        }
        x.stays(before);
        x.fillTo(11);
        x.due(-1, "least", 11);
        x.due(11, "least", 0);
        before = x.all();
        x.due(-1, "least", 0);
        x.due(-1, "least", 11);
        x.due(-1, "least", 12);
        x.due(-1, "least", -1);
        x.stays(before);
        x.due(null, "clear");
        x.due(-1, "least", 0);
        x.due(0, "machine", 1, 1);
        x.due(1, "least", 0);
    }

    public static void main(String[] args) throws java.io.IOException {
        newObject();
        machineComes();
        machineRefused();
        arrowRefused();
        lookAtAnArrow();
        lookRefused();
        classesOfAll();
        leastLike();
        alikeAndTheWord();
        alikeRefused();
        leastComes();
        leastRefused();
        Sentences.checkDocument();
        Due.end();
    }
}
