import java.util.Arrays;
import java.util.List;
import java.util.Map;
import java.util.Random;
import java.util.TreeMap;

/**
 * Random runs of 512 calls, the same each time: the class must answer what the Model answers. The
 * looks at the whole state behind a run are calls that the document leaves free; the class keeps no
 * number of calls, so they show what the run left behind.
 */
public final class RandomRunsTest {
    private static final int RUNS = 2000;
    private static final int CALLS = 512;
    private static final int[] WILD = {
        Integer.MIN_VALUE, -1000, -2, -1, 0, 9, 10, 39, 40, 59, 60, 100, 999, 1000, 5000, 5001,
        9999, 10000, 10001, 99999, 100000, Integer.MAX_VALUE};

    /** By names of calls: the kinds of their arguments, each a letter (see argument). */
    private static final String[][] CALL_KINDS = {
        {"person", ""}, {"enter", "ps"}, {"leave", "p"}, {"guests", "sg"}, {"roll", "S"},
        {"answer", "rsp"}, {"seen", "rg"}, {"round", "r"}, {"rollAt", "rw"}, {"missing", "ri"},
        {"twice", "dw"}, {"mayday", "pg"}, {"answered", "m"}, {"maydayAt", "mw"}, {"evacuate", "t"},
        {"confirm", "s"}, {"late", "ei"}, {"tick", "t"}, {"was", "pt"}, {"count", "w"}};

    /** An answer (or nothing) of each of the 20 calls, and each throw that the face names. */
    static final int KINDS_OF_OUTCOMES = 20 + 44;

    /** A run does much of a little, so that it comes to its limits. */
    private static final List<List<String>> THEMES = List.of(
            List.of("person"), List.of("enter"), List.of("enter", "leave"), List.of("roll"),
            List.of("roll", "round", "answer"),
            List.of("roll", "round", "enter", "answer", "missing"),
            List.of("answer"), List.of("seen"), List.of("roll", "round", "leave", "enter"),
            List.of("mayday", "answered"), List.of("mayday", "answered", "roll", "round"),
            List.of("evacuate", "confirm"), List.of("evacuate", "confirm", "tick", "late"),
            List.of("enter", "tick", "was"), List.of("tick"), List.of("count"));

    private final Random random;
    private final int spread;
    private final RollCalls object = new RollCalls();
    private final Model model = new Model();
    private final double[] weights = new double[CALL_KINDS.length];
    private final Map<String, Integer> outcomes;
    private final StringBuilder told = new StringBuilder();
    private int persons = 0;
    private int rolls = 0;
    private int maydays = 0;
    private int evacuations = 0;
    private int doubles = 0;

    private RandomRunsTest(long seed, Map<String, Integer> outcomes) {
        random = new Random(seed);
        this.outcomes = outcomes;
        spread = 1 + random.nextInt(10);
        List<String> theme = THEMES.get(random.nextInt(THEMES.size()));
        double others = random.nextDouble() * 0.2;
        for (int k = 0; k < weights.length; k++) {
            weights[k] = theme.contains(CALL_KINDS[k][0]) ? 1 : random.nextDouble() * others;
        }
    }

    public static void main(String[] args) {
        Map<String, Integer> outcomes = new TreeMap<>();
        for (int run = 0; run < RUNS; run++) {
            RandomRunsTest test = new RandomRunsTest(run, outcomes);
            if (!test.isAsDue()) {
                System.out.println("run " + run + ":\n" + test.told);
                System.exit(1);
            }
        }
        System.out.println(RUNS + " runs as due, " + outcomes.size() + " kinds of outcomes");
        if (outcomes.size() != KINDS_OF_OUTCOMES) {
            System.out.println("but not each call came to each of its outcomes: " + outcomes);
            System.exit(1);
        }
    }

    private boolean isAsDue() {
        int calls = 0;
        for (int p = random.nextInt(12); p > 0; p--) {
            if (!isAsDue("person") || !isAsDue("enter", persons - 1, random.nextInt(spread))) {
                return false;
            }
            calls += 2;
        }
        for (; calls < CALLS; calls++) {
            String[] call = CALL_KINDS[drawn()];
            int[] arguments = call[1].chars().map(kind -> argument((char) kind)).toArray();
            if (!isAsDue(call[0], arguments)) {
                return false;
            }
        }
        return isStateAsDue();
    }

    private int drawn() {
        double at = random.nextDouble() * Arrays.stream(weights).sum();
        for (int k = 0; k < weights.length; k++) {
            at -= weights[k];
            if (at < 0) {
                return k;
            }
        }
        return 0;
    }

    private int argument(char kind) {
        if (random.nextInt(60) == 0) {
            return WILD[random.nextInt(WILD.length)];
        }
        switch (kind) {
            case 'p': return random.nextInt(persons + 1);
            case 's': return random.nextInt(random.nextInt(9) == 0 ? 10 : spread);
            case 'S': return random.nextInt(spread + 1) - 1;
            case 'g': return random.nextInt(random.nextBoolean() ? 1000 : 3);
            case 'r': return newest(rolls);
            case 'm': return newest(maydays);
            case 'e': return newest(evacuations);
            case 'd': return newest(doubles);
            case 't': return random.nextInt(random.nextInt(8) == 0 ? 6000 : 12);
            case 'i': return random.nextInt(4);
            case 'w': return random.nextInt(8) - (random.nextInt(20) == 0 ? 1 : 0);
            default: throw new AssertionError(kind);
        }
    }

    /** Mostly one of the newest few, which are those that are still on. */
    private int newest(int size) {
        return random.nextBoolean() ? random.nextInt(size + 1)
                : Math.max(0, size - 1 - random.nextInt(3));
    }

    private boolean isAsDue(String name, int... arguments) {
        String want = model.outcome(name, arguments);
        String got = Outcome.of(object, name, arguments);
        told.append(name).append(Arrays.toString(arguments)).append(" ").append(got).append("\n");
        if (!got.equals(want)) {
            told.append("due is ").append(want);
            return false;
        }
        outcomes.merge(name + " " + (want.matches("-?\\d+") ? "number" : want), 1, Integer::sum);
        noteNew(name, got);
        return true;
    }

    private void noteNew(String name, String got) {
        int added = Character.isDigit(got.charAt(0)) ? 1 : 0;
        switch (name) {
            case "person": persons += added; break;
            case "roll": rolls += added; break;
            case "mayday": maydays += added; break;
            case "evacuate": evacuations += added; break;
            case "answer": doubles += got.equals("3") ? 1 : 0; break;
            default: break;
        }
    }

    private boolean isStateAsDue() {
        boolean due = isTableAsDue("count", 0, 5);
        for (int r = 0; r < rolls; r++) {
            due = due && isTableAsDue("rollAt", r, 6) && isTableAsDue("missing", r, 59);
        }
        for (int d = 0; d < doubles; d++) {
            due = due && isTableAsDue("twice", d, 3);
        }
        for (int m = 0; m < maydays; m++) {
            due = due && isTableAsDue("maydayAt", m, 4);
        }
        for (int e = 0; e < evacuations; e++) {
            due = due && isTableAsDue("late", e, 10);
        }
        for (int p = 0; p < persons; p++) {
            due = due && isTableAsDue("was", p, 20);
        }
        return due;
    }

    private boolean isTableAsDue(String name, int first, int last) {
        for (int i = 0; i <= last; i++) {
            if (!(name.equals("count") ? isAsDue(name, i) : isAsDue(name, first, i))) {
                return false;
            }
        }
        return true;
    }
}
