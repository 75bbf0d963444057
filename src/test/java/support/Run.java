/**
 * One object of the class with its calls by name, an exception being an answer as well. It counts
 * them, for the document promises nothing behind the 512th.
 */
final class Run {
    static final int MOST_CALLS = 512;

    private final MachineTables x = new MachineTables();
    private int calls = 0;

    int calls() {
        return calls;
    }

    /** A call with the answer that is due: a number, a boolean, null for none, throws.Name. */
    void due(Object want, String name, int... with) {
        String call = Due.call(name, with);
        Due.same(call, String.valueOf(want), answer(name, with));
    }

    String answer(String name, int... with) {
        if (calls >= MOST_CALLS) {
            throw new IllegalStateException("this test asks more than is promised");
        }
        return freeAnswer(name, with);
    }

    /** A call behind the last one whose answer is promised: it has to end, no more. */
    String freeAnswer(String name, int... with) {
        calls++;
        try {
            return String.valueOf(call(name, with));
        } catch (RuntimeException e) {
            return "throws." + e.getClass().getSimpleName();
        }
    }

    private Object call(String name, int... a) {
        return switch (name) {
            case "machine" -> x.machine(a[0], a[1]);
            case "arrow" -> x.arrow(a[0], a[1], a[2], a[3], a[4]);
            case "look" -> x.look(a[0], a[1], a[2], a[3]);
            case "classes" -> x.classes(a[0]);
            case "like" -> x.like(a[0], a[1]);
            case "alike" -> x.alike(a[0], a[1], a[2], a[3]);
            case "least" -> x.least(a[0]);
            case "part" -> x.part(a[0], a[1]);
            case "reset" -> x.reset(a[0]);
            case "home" -> x.home(a[0]);
            case "chain" -> x.chain(a[0], a[1]);
            case "letter" -> x.letter(a[0]);
            case "along" -> x.along(a[0], a[1]);
            case "total" -> x.total(a[0]);
            case "clear" -> {
                x.clear();
                yield null;
            }
            default -> throw new IllegalStateException("no such call: " + name);
        };
    }

    private int number(String name, int... with) {
        String answer = answer(name, with);
        return answer.matches("-?[0-9]+") ? Integer.parseInt(answer) : Integer.MIN_VALUE;
    }

    /** A machine of rows (see Rows); arrows that are as at first cost no call. */
    int make(int[][] rows) {
        int m = number("machine", rows.length, rows[0].length / 2);
        for (int s = 0; s < rows.length; s++) {
            for (int i = 0; i < rows[s].length / 2; i++) {
                if (rows[s][2 * i] != s || rows[s][2 * i + 1] != 0) {
                    due(true, "arrow", m, s, i, rows[s][2 * i], rows[s][2 * i + 1]);
                }
            }
        }
        return m;
    }

    /** Least machines until there are so many in all. */
    void fillTo(int machines) {
        for (int m = number("total", 0); m < machines; m++) {
            due(m, "machine", 1, 1);
        }
    }

    void wordIs(String want) {
        Due.same("the word told", want, word());
    }

    void machineIs(int m, String want) {
        Due.same("the arrows of " + m, want, machineText(m));
    }

    String word() {
        StringBuilder digits = new StringBuilder();
        int length = number("total", 1);
        for (int i = 0; i < length; i++) {
            digits.append(answer("letter", i));
        }
        return digits.toString();
    }

    private String machineText(int m) {
        StringBuilder all = new StringBuilder();
        int states = number("total", 100 + m);
        int inputs = number("total", 200 + m);
        for (int s = 0; s < states; s++) {
            for (int i = 0; i < inputs; i++) {
                all.append(answer("look", m, s, i, 0)).append('/');
                all.append(answer("look", m, s, i, 1)).append(',');
            }
            all.append(' ');
        }
        return all.toString().trim();
    }

    /** All that can be told of the object, to see whether refused calls change something. */
    String all() {
        int machines = number("total", 0);
        StringBuilder all = new StringBuilder();
        for (int m = 0; m < machines; m++) {
            all.append(machineText(m)).append("; ");
        }
        return all + "word " + word();
    }

    void stays(String before) {
        Due.same("all machines and the word behind refused calls", before, all());
    }
}
