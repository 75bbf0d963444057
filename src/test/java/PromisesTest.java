import java.util.NoSuchElementException;

/** Each promise by itself: ordinary inputs, the edges that the document names, wrong inputs. */
public final class PromisesTest {
    private static final int[] WRONG = {-1, Integer.MIN_VALUE, Integer.MAX_VALUE, 1 << 30};

    /** 1 and 2 are like; 3 is told from 0 by the word 00. */
    private static final int[][] FOUR = {
        {1, 0, 2, 0}, {3, 1, 0, 0}, {3, 1, 0, 0}, {3, 0, 1, 0}
    };
    /** State 0 goes to 3 and back; 1 is like 3, and 2 is like none and not come to. */
    private static final int[][] APART = {{3, 0}, {0, 1}, {2, 7}, {0, 1}};
    /** The 300th word not left out is the first that homes: 299 did not do. */
    private static final int[][] JUST_HOMED = {
        {0, 0, 2, 1, 0, 0, 0, 0}, {1, 0, 6, 0, 3, 0, 1, 0}, {2, 0, 5, 0, 2, 0, 2, 0},
        {3, 0, 0, 0, 5, 0, 3, 0}, {4, 0, 1, 0, 1, 0, 4, 0}, {5, 0, 7, 0, 4, 0, 7, 0},
        {7, 0, 3, 0, 6, 0, 5, 0}, {6, 0, 4, 0, 7, 0, 7, 0}
    };
    /** The 301st would be the first that homes: 300 did not do. */
    private static final int[][] JUST_GIVEN_UP = {
        {7, 0, 1, 0, 1, 0, 1, 0}, {4, 0, 2, 0, 2, 0, 2, 0}, {8, 0, 3, 0, 3, 0, 3, 0},
        {3, 0, 4, 0, 4, 0, 4, 0}, {5, 0, 5, 0, 5, 0, 5, 0}, {6, 0, 6, 0, 6, 0, 6, 0},
        {1, 0, 7, 0, 7, 0, 7, 0}, {0, 0, 8, 1, 8, 0, 8, 0}, {2, 0, 0, 0, 0, 0, 0, 0}
    };

    private PromisesTest() {
    }

    private static void thrown(String call, Runnable run) {
        Due.thrown(call, ArithmeticException.class, run);
    }

    private static MachineTables with(int[]... rows) {
        MachineTables x = new MachineTables();
        Tables.make(x, rows);
        return x;
    }

    /** A cycle, with output 1 from its last state. */
    private static int makeCycle(MachineTables x, int states, int inputs) {
        int m = x.machine(states, inputs);
        for (int s = 0; s < states; s++) {
            for (int i = 0; i < inputs; i++) {
                x.arrow(m, s, i, (s + 1) % states, s == states - 1 ? 1 : 0);
            }
        }
        return m;
    }

    private static void fill(MachineTables x) {
        for (int i = x.total(0); i < 12; i++) {
            x.machine(1, 1);
        }
    }

    /** Tells the word 00 of the machine FOUR, which must be number m. */
    private static void tellWord(MachineTables x, int m) {
        x.alike(m, 0, m, 3);
        Due.same("the word before", "00", Tables.word(x));
    }

    private static void promise1NewObject() {
        MachineTables x = new MachineTables();
        Due.is("1: machines", 0, x.total(0));
        Due.is("1: length of the word", 0, x.total(1));
        Due.thrown("1: letter(0)", NoSuchElementException.class, () -> x.letter(0));
        Due.is("1: states of 0", -1, x.total(100));
        x.machine(3, 1);
        Due.is("1: along the empty word", 2, x.along(0, 2));
        Due.is("1: another object has none of it", 0, new MachineTables().total(0));
    }

    private static void promise2Machine() {
        MachineTables x = new MachineTables();
        Due.is("2: no states", -1, x.machine(0, 1));
        Due.is("2: no inputs", -1, x.machine(1, 0));
        Due.is("2: 41 states", -1, x.machine(41, 1));
        Due.is("2: 5 inputs", -1, x.machine(1, 5));
        for (int wrong : WRONG) {
            Due.is("2: states " + wrong, -1, x.machine(wrong, 2));
            Due.is("2: inputs " + wrong, -1, x.machine(2, wrong));
        }
        Due.is("2: none has come", 0, x.total(0));
        Due.is("2: the least", 0, x.machine(1, 1));
        Due.is("2: the greatest", 1, x.machine(40, 4));
        for (int s = 0; s < 40; s++) {
            for (int i = 0; i < 4; i++) {
                Due.is("2: next at first", s, x.look(1, s, i, 0));
                Due.is("2: output at first", 0, x.look(1, s, i, 1));
            }
        }
        for (int m = 2; m < 12; m++) {
            Due.is("2: machine " + m, m, x.machine(2, 2));
        }
        Due.is("2: a 13th", -1, x.machine(2, 2));
        Due.is("2: still 12", 12, x.total(0));
    }

    private static void promise3Arrow() {
        MachineTables x = new MachineTables();
        Due.is("3: no machine yet", false, x.arrow(0, 0, 0, 0, 0));
        x.machine(3, 2);
        x.machine(3, 2);
        Due.is("3: ordinary", true, x.arrow(0, 2, 1, 1, 9));
        Due.is("3: again", true, x.arrow(0, 0, 0, 2, 3));
        Due.same("3: all arrows", "2/3,0/0, 1/0,1/0, 2/0,1/9,", Tables.text(x, 0));
        Due.same("3: the other one", "0/0,0/0, 1/0,1/0, 2/0,2/0,", Tables.text(x, 1));
        Due.is("3: no such machine", false, x.arrow(2, 0, 0, 0, 1));
        Due.is("3: state 3", false, x.arrow(0, 3, 0, 0, 1));
        Due.is("3: input 2", false, x.arrow(0, 0, 2, 0, 1));
        Due.is("3: next 3", false, x.arrow(0, 0, 0, 3, 1));
        Due.is("3: output 10", false, x.arrow(0, 0, 0, 0, 10));
        for (int wrong : WRONG) {
            Due.is("3: machine " + wrong, false, x.arrow(wrong, 0, 0, 0, 1));
            Due.is("3: state " + wrong, false, x.arrow(0, wrong, 0, 0, 1));
            Due.is("3: input " + wrong, false, x.arrow(0, 0, wrong, 0, 1));
            Due.is("3: next " + wrong, false, x.arrow(0, 0, 0, wrong, 1));
            Due.is("3: output " + wrong, false, x.arrow(0, 0, 0, 0, wrong));
        }
        Due.same("3: nothing changed", "2/3,0/0, 1/0,1/0, 2/0,1/9,", Tables.text(x, 0));
        Due.is("3: over the old one", true, x.arrow(0, 2, 1, 2, 0));
        Due.same("3: changed", "2/3,0/0, 1/0,1/0, 2/0,2/0,", Tables.text(x, 0));
    }

    private static void promise4Look() {
        MachineTables x = with(FOUR);
        Due.is("4: next", 3, x.look(0, 1, 0, 0));
        Due.is("4: output", 1, x.look(0, 1, 0, 1));
        Due.is("4: next by 1", 2, x.look(0, 0, 1, 0));
        Due.is("4: what 2", -1, x.look(0, 1, 0, 2));
        Due.is("4: machine 1", -1, x.look(1, 0, 0, 0));
        Due.is("4: state 4", -1, x.look(0, 4, 0, 0));
        Due.is("4: input 2", -1, x.look(0, 0, 2, 0));
        for (int wrong : WRONG) {
            Due.is("4: machine " + wrong, -1, x.look(wrong, 0, 0, 0));
            Due.is("4: state " + wrong, -1, x.look(0, wrong, 0, 0));
            Due.is("4: input " + wrong, -1, x.look(0, 0, wrong, 1));
            Due.is("4: what " + wrong, -1, x.look(0, 0, 0, wrong));
        }
    }

    private static void promise5Classes() {
        MachineTables x = with(FOUR);
        Due.is("5: ordinary", 3, x.classes(0));
        x.arrow(0, 2, 0, 3, 4);
        Due.is("5: behind an arrow's change", 4, x.classes(0));
        x.arrow(0, 2, 0, 3, 1);
        Due.is("5: and back", 3, x.classes(0));
        Due.is("5: all states alike", 1, x.classes(x.machine(40, 4)));
        Due.is("5: those not come to, too", 3, x.classes(Tables.make(x, APART)));
        Due.is("5: told only by the longest words", 40, x.classes(makeCycle(x, 40, 1)));
        Due.is("5: no such machine", -1, x.classes(4));
        for (int wrong : WRONG) {
            Due.is("5: machine " + wrong, -1, x.classes(wrong));
        }
    }

    private static void promise6Like() {
        MachineTables x = with(FOUR);
        int[] due = {0, 1, 1, 3};
        for (int s = 0; s < 4; s++) {
            Due.is("6: like " + s, due[s], x.like(0, s));
        }
        Tables.make(x, APART);
        Due.is("6: like one that is not come to", 1, x.like(1, 3));
        Due.is("6: behind an arrow's change", true, x.arrow(1, 3, 0, 0, 2));
        Due.is("6: now by itself", 3, x.like(1, 3));
        Due.is("6: state 4", -1, x.like(0, 4));
        Due.is("6: machine 2", -1, x.like(2, 0));
        for (int wrong : WRONG) {
            Due.is("6: machine " + wrong, -1, x.like(wrong, 0));
            Due.is("6: state " + wrong, -1, x.like(0, wrong));
        }
    }

    private static void promise7Alike() {
        MachineTables x = with(FOUR);
        tellWord(x, 0);
        Due.is("7: like", true, x.alike(0, 1, 0, 2));
        Due.is("7: itself", true, x.alike(0, 3, 0, 3));
        Due.same("7: the word stays", "00", Tables.word(x));
        Due.is("7: not like", false, x.alike(0, 0, 0, 1));
        Due.same("7: the witness", "0", Tables.word(x));
        int m = makeCycle(x, 40, 2);
        Due.is("7: cycle", false, x.alike(m, 0, m, 1));
        Due.same("7: long witness", "0".repeat(39), Tables.word(x));
        int n = makeCycle(x, 39, 2);
        Due.is("7: of two machines", false, x.alike(m, 0, n, 0));
        Due.same("7: its witness", "0".repeat(39), Tables.word(x));
        Due.is("7: of two machines, behind many steps", false, x.alike(m, 1, n, 0));
        Due.same("7: longer than either machine", "0".repeat(78), Tables.word(x));
        int k = Tables.make(x, new int[][] {{0, 0, 1, 0, 0, 0}, {1, 0, 1, 0, 0, 3}});
        int l = Tables.make(x, new int[][] {{0, 0, 1, 0, 0, 0}, {0, 0, 1, 0, 1, 4}});
        Due.is("7: by the second input first", false, x.alike(k, 0, l, 0));
        Due.same("7: least of the shortest", "12", Tables.word(x));
        Due.is("7: copies are like", true, x.alike(k, 0, Tables.make(x, new int[][] {
            {0, 0, 1, 0, 0, 0}, {1, 0, 1, 0, 0, 3}}), 0));
        wrongAlike(x, m, k);
        Due.same("7: the word stays behind exceptions", "12", Tables.word(x));
    }

    private static void wrongAlike(MachineTables x, int m, int threeInputs) {
        Class<IllegalArgumentException> due = IllegalArgumentException.class;
        Due.thrown("7: not as many inputs", due, () -> x.alike(m, 0, threeInputs, 0));
        Due.thrown("7: no such machine", due, () -> x.alike(m, 0, 11, 0));
        Due.thrown("7: nor first", due, () -> x.alike(11, 0, m, 0));
        Due.thrown("7: state 40", due, () -> x.alike(m, 40, m, 0));
        Due.thrown("7: other 40", due, () -> x.alike(m, 0, m, 40));
        for (int wrong : WRONG) {
            Due.thrown("7: machine " + wrong, due, () -> x.alike(wrong, 0, m, 0));
            Due.thrown("7: state " + wrong, due, () -> x.alike(m, wrong, m, 0));
            Due.thrown("7: second machine " + wrong, due, () -> x.alike(m, 0, wrong, 0));
            Due.thrown("7: other " + wrong, due, () -> x.alike(m, 0, m, wrong));
        }
    }

    private static void promise8Least() {
        MachineTables x = with(FOUR);
        tellWord(x, 0);
        Due.is("8: its number", 1, x.least(0));
        Due.same("8: its arrows", "1/0,1/0, 2/1,0/0, 2/0,1/0,", Tables.text(x, 1));
        Due.same("8: the word stays", "00", Tables.word(x));
        Due.same("8: the first one stays", "1/0,2/0, 3/1,0/0, 3/1,0/0, 3/0,1/0,", Tables.text(x, 0));
        int m = Tables.make(x, APART);
        Due.is("8: with states not come to", 3, x.least(m));
        Due.same("8: without them", "1/0, 0/1,", Tables.text(x, 3));
        m = Tables.make(x, new int[][] {{3, 0, 1, 0}, {1, 1, 2, 0}, {2, 2, 2, 0}, {2, 3, 1, 0}});
        Due.is("8: numbered as come to", 5, x.least(m));
        Due.same("8: first found, first looked at", "1/0,2/0, 3/3,2/0, 2/1,3/0, 3/2,3/0,",
            Tables.text(x, 5));
        m = x.machine(40, 4);
        Due.is("8: all alike", 7, x.least(m));
        Due.same("8: one state", "0/0,0/0,0/0,0/0,", Tables.text(x, 7));
        Due.is("8: no such machine", -1, x.least(8));
        for (int wrong : WRONG) {
            Due.is("8: machine " + wrong, -1, x.least(wrong));
        }
        fill(x);
        Due.is("8: there are 12", -1, x.least(0));
        Due.is("8: still 12", 12, x.total(0));
    }

    private static void promise9Part() {
        MachineTables x = with(FOUR);
        int[] due = {0, 1, 1, 2};
        for (int s = 0; s < 4; s++) {
            Due.is("9: part " + s, due[s], x.part(0, s));
        }
        Tables.make(x, APART);
        Due.is("9: like one that is come to", 1, x.part(1, 1));
        Due.is("9: come to", 1, x.part(1, 3));
        Due.is("9: like none that is come to", -1, x.part(1, 2));
        Due.is("9: no machine comes of it", 2, x.total(0));
        Due.is("9: state 4", -1, x.part(0, 4));
        Due.is("9: machine 2", -1, x.part(2, 0));
        for (int wrong : WRONG) {
            Due.is("9: machine " + wrong, -1, x.part(wrong, 0));
            Due.is("9: state " + wrong, -1, x.part(0, wrong));
        }
        fill(x);
        Due.is("9: as it would be, with 12", 2, x.part(0, 3));
    }

    private static void promise10Reset() {
        MachineTables x = with(FOUR);
        Due.is("10: ordinary", 2, x.reset(0));
        Due.same("10: its word", "00", Tables.word(x));
        Due.is("10: none", -1, x.reset(makeCycle(x, 3, 4)));
        Due.is("10: 13 states", -1, x.reset(Tables.make(x, new int[13][2])));
        Due.is("10: no such machine", -1, x.reset(3));
        for (int wrong : WRONG) {
            Due.is("10: machine " + wrong, -1, x.reset(wrong));
        }
        Due.same("10: the word stays", "00", Tables.word(x));
        Due.is("10: 12 states", 1, x.reset(Tables.make(x, new int[12][2])));
        Due.same("10: their word", "0", Tables.word(x));
        Due.is("10: one state", 0, x.reset(x.machine(1, 1)));
        Due.same("10: the empty word", "", Tables.word(x));
        int m = makeCycle(x, 4, 2);
        for (int s = 0; s < 4; s++) {
            x.arrow(m, s, 1, s == 3 ? 0 : s, 0);
        }
        Due.is("10: the longest of 4", 9, x.reset(m));
        Due.same("10: that word", "100010001", Tables.word(x));
        Due.is("10: to one state", x.along(m, 0), x.along(m, 2));
        m = Tables.make(x, new int[][] {{0, 0, 1, 0, 1, 0}, {1, 0, 1, 0, 1, 0}});
        Due.is("10: of several", 1, x.reset(m));
        Due.same("10: the least", "1", Tables.word(x));
    }

    private static void promise11Home() {
        MachineTables x = with(FOUR);
        Due.is("11: ordinary", 2, x.home(0));
        Due.same("11: its word", "00", Tables.word(x));
        Due.is("11: 13 states", -1, x.home(x.machine(13, 1)));
        Due.is("11: no such machine", -1, x.home(2));
        for (int wrong : WRONG) {
            Due.is("11: machine " + wrong, -1, x.home(wrong));
        }
        Due.same("11: the word stays", "00", Tables.word(x));
        Due.is("11: all like", 0, x.home(x.machine(12, 4)));
        Due.same("11: the empty word", "", Tables.word(x));
        Due.is("11: a cycle of 12", 11, x.home(makeCycle(x, 12, 1)));
        Due.same("11: nearly once round", "0".repeat(11), Tables.word(x));
        int m = Tables.make(x, new int[][] {{0, 0, 0, 1}, {1, 0, 1, 2}, {2, 0, 2, 9}});
        Due.is("11: by outputs alone", 1, x.home(m));
        Due.same("11: told by input 1", "1", Tables.word(x));
        m = Tables.make(x, new int[][] {{0, 0, 0, 0}, {0, 0, 1, 5}});
        Due.is("11: led to one state", 1, x.home(m));
        Due.same("11: by input 0", "0", Tables.word(x));
        m = Tables.make(x, new int[][] {{1, 0, 0, 0}, {1, 1, 1, 1}, {2, 1, 2, 1}, {2, 0, 3, 5}});
        Due.is("11: led to states that are like", 1, x.home(m));
        Due.same("11: by input 0, too", "0", Tables.word(x));
        Due.is("11: the 300th does", 7, x.home(Tables.make(x, JUST_HOMED)));
        Due.same("11: its word", "1111111", Tables.word(x));
        int last = Tables.make(x, JUST_GIVEN_UP);
        thrown("11: 300 do not", () -> x.home(last));
        Due.same("11: the word stays behind the exception", "1111111", Tables.word(x));
        Due.is("11: and the machine", 9, x.total(100 + last));
    }

    private static void promise12Chain() {
        MachineTables x = with(new int[][] {{1, 1, 0, 0}, {2, 0, 0, 0}, {0, 1, 2, 1}});
        Due.is("12: with itself", 1, x.chain(0, 0));
        Due.same("12: pairs as come to",
            "1/0,2/1, 3/1,2/1, 1/0,4/0, 0/0,5/0, 6/1,0/1, 0/0,5/0, 5/1,0/1,", Tables.text(x, 1));
        int two = Tables.make(x, new int[][] {{0, 8, 1, 0}, {0, 0, 1, 9}});
        int four = Tables.make(x, new int[][] {{1, 1, 0, 0, 1, 0, 0, 1}, {0, 1, 1, 1, 1, 1, 1, 0}});
        Due.is("12: other inputs", 4, x.chain(four, two));
        Due.same("12: the first one's inputs, the second one's outputs",
            "1/0,0/8,2/8,3/0, 3/9,1/9,1/9,2/0, 3/0,1/0,1/0,2/8, 1/9,0/0,2/0,3/9,",
            Tables.text(x, 4));
        thrown("12: an output that is no input", () -> x.chain(two, four));
        int one = x.machine(1, 1);
        int far = Tables.make(x, new int[][] {{1, 0}, {2, 0}, {0, 1}, {3, 9}});
        thrown("12: such an output behind some steps", () -> x.chain(far, one));
        Due.is("12: nothing has come of these", 7, x.total(0));
        x.arrow(far, 2, 0, 0, 0);
        Due.is("12: such an output where one does not come to", 7, x.chain(far, one));
        Due.same("12: its arrows", "1/0, 2/0, 0/0,", Tables.text(x, 7));
        for (int wrong : WRONG) {
            Due.is("12: first " + wrong, -1, x.chain(wrong, 0));
            Due.is("12: second " + wrong, -1, x.chain(0, wrong));
        }
        Due.is("12: no such first", -1, x.chain(8, 0));
        Due.is("12: no such second", -1, x.chain(two, 8));
        fill(x);
        Due.is("12: there are 12", -1, x.chain(0, 0));
        Due.is("12: that is asked first", -1, x.chain(two, four));
        Due.is("12: still 12", 12, x.total(0));
    }

    /** A line that ends in a loop with output 1. */
    private static int makeLine(MachineTables x, int states) {
        int m = x.machine(states, 1);
        for (int s = 0; s < states - 1; s++) {
            x.arrow(m, s, 0, s + 1, 0);
        }
        x.arrow(m, states - 1, 0, states - 1, 1);
        return m;
    }

    private static void promise12MostPairs() {
        MachineTables x = new MachineTables();
        int once = Tables.make(x, new int[][] {{0, 0, 1, 0}, {1, 0, 1, 5}});
        Due.is("12: 40 pairs", 2, x.chain(makeLine(x, 39), once));
        Due.is("12: their states", 40, x.total(102));
        Due.is("12: the last one's next", 39, x.look(2, 39, 0, 0));
        Due.is("12: the last one's output", 5, x.look(2, 39, 0, 1));
        int line = makeLine(x, 40);
        thrown("12: 41 pairs", () -> x.chain(line, once));
        int forty = x.chain(makeCycle(x, 8, 1), makeCycle(x, 5, 2));
        Due.is("12: all pairs of 8 and 5", 40, x.total(100 + forty));
        int seven = makeCycle(x, 7, 1);
        int six = makeCycle(x, 6, 2);
        int before = x.total(0);
        thrown("12: all pairs of 7 and 6", () -> x.chain(seven, six));
        Due.is("12: nothing has come of it", before, x.total(0));
    }

    private static void promise13Letter() {
        MachineTables x = with(new int[][] {{1, 0, 0, 0, 0, 0}, {0, 0, 0, 0, 2, 0}, {2, 0, 2, 0, 2, 1}});
        Class<NoSuchElementException> due = NoSuchElementException.class;
        Due.thrown("13: of the empty word", due, () -> x.letter(0));
        Due.is("13: a word comes", false, x.alike(0, 0, 0, 1));
        int[] word = {2, 2};
        for (int i = 0; i < word.length; i++) {
            Due.is("13: letter " + i, word[i], x.letter(i));
        }
        Due.thrown("13: behind the last", due, () -> x.letter(2));
        for (int wrong : WRONG) {
            Due.thrown("13: letter " + wrong, due, () -> x.letter(wrong));
        }
        Due.is("13: a shorter word comes", false, x.alike(0, 0, 0, 2));
        Due.is("13: its letter", 2, x.letter(0));
        Due.thrown("13: the old one's letter is gone", due, () -> x.letter(1));
    }

    private static void promise14Along() {
        MachineTables x = with(FOUR);
        Due.is("14: the empty word", 2, x.along(0, 2));
        tellWord(x, 0);
        int[] due = {3, 3, 3, 3};
        for (int s = 0; s < 4; s++) {
            Due.is("14: from " + s, due[s], x.along(0, s));
        }
        int cycle = makeCycle(x, 5, 1);
        Due.is("14: another machine", 1, x.along(cycle, 4));
        int m = Tables.make(x, new int[][] {{0, 0, 1, 0}, {1, 0, 1, 5}});
        x.reset(m);
        Due.same("14: another word", "1", Tables.word(x));
        Due.is("14: an input that it has", 1, x.along(m, 0));
        Due.is("14: an input that it has not", -1, x.along(cycle, 0));
        Due.is("14: state 4", -1, x.along(0, 4));
        Due.is("14: machine 3", -1, x.along(3, 0));
        for (int wrong : WRONG) {
            Due.is("14: machine " + wrong, -1, x.along(wrong, 0));
            Due.is("14: state " + wrong, -1, x.along(0, wrong));
        }
    }

    private static void promise15Clear() {
        MachineTables x = with(FOUR);
        x.machine(2, 2);
        tellWord(x, 0);
        Due.is("15: classes before", 3, x.classes(0));
        x.clear();
        Due.is("15: no machines", 0, x.total(0));
        Due.same("15: the word stays", "00", Tables.word(x));
        Due.is("15: states", -1, x.total(100));
        Due.is("15: look", -1, x.look(0, 0, 0, 0));
        Due.is("15: arrow", false, x.arrow(0, 0, 0, 0, 0));
        Due.is("15: classes", -1, x.classes(0));
        Due.is("15: least", -1, x.least(0));
        Due.is("15: numbers begin anew", 0, x.machine(4, 3));
        Due.same("15: nothing of the old one", "0/0,0/0,0/0, 1/0,1/0,1/0, 2/0,2/0,2/0, 3/0,3/0,3/0,",
            Tables.text(x, 0));
        Due.is("15: nor its sets", 1, x.classes(0));
        Due.is("15: only one", -1, x.total(101));
        fill(x);
        Due.is("15: 12 again", 12, x.total(0));
        x.clear();
        x.clear();
        Due.is("15: twice", 0, x.total(0));
    }

    private static void promise16Total() {
        MachineTables x = with(FOUR);
        Due.is("16: one machine", 1, x.total(0));
        x.machine(40, 3);
        Due.is("16: two machines", 2, x.total(0));
        Due.is("16: the empty word", 0, x.total(1));
        tellWord(x, 0);
        Due.is("16: a word of two", 2, x.total(1));
        Due.is("16: states of 0", 4, x.total(100));
        Due.is("16: states of 1", 40, x.total(101));
        Due.is("16: states of 2", -1, x.total(102));
        Due.is("16: inputs of 0", 2, x.total(200));
        Due.is("16: inputs of 1", 3, x.total(201));
        Due.is("16: inputs of 2", -1, x.total(202));
        for (int what : new int[] {2, 3, 50, 99, 150, 199, 299, 300, 301, 400, -100, -99}) {
            Due.is("16: what " + what, -1, x.total(what));
        }
        for (int wrong : WRONG) {
            Due.is("16: what " + wrong, -1, x.total(wrong));
        }
        fill(x);
        Due.is("16: states of 11", 1, x.total(111));
        Due.is("16: states of 12", -1, x.total(112));
        Due.is("16: inputs of 11", 1, x.total(211));
        Due.is("16: inputs of 12", -1, x.total(212));
    }

    public static void main(String[] args) {
        promise1NewObject();
        promise2Machine();
        promise3Arrow();
        promise4Look();
        promise5Classes();
        promise6Like();
        promise7Alike();
        promise8Least();
        promise9Part();
        promise10Reset();
        promise11Home();
        promise12Chain();
        promise12MostPairs();
        promise13Letter();
        promise14Along();
        promise15Clear();
        promise16Total();
        Due.end();
    }
}
