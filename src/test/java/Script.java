import java.util.LinkedHashSet;
import java.util.List;
import java.util.Set;

/**
 * Runs written calls on one new RollCalls and tells each whose answer is not the one that is due.
 *
 * <p>A row is one of
 * <pre>
 *   call(1, 2)                          it must throw nothing; what it answers is not looked at
 *   call(1, 2) = 3                      it must answer 3
 *   call(1, 2) ! IllegalStateException  it must throw just that class, no class below it
 *   300 x call(1, 2); call(3)           the calls, so often, in turn; none may throw
 *   # words                             a remark
 * </pre>
 *
 * <p>A run keeps to the 512 calls that the document promises answers for.
 */
final class Script {
    private static final int MOST_CALLS = 512;

    private static int wrong = 0;
    private static int rows = 0;

    private final String name;
    private final RollCalls object = new RollCalls();
    private int calls = 0;

    private Script(String name) {
        this.name = name;
    }

    static void run(String name, String text) {
        Script script = new Script(name);
        for (String row : text.split("\n")) {
            String trimmed = row.trim();
            if (!trimmed.isEmpty() && !trimmed.startsWith("#")) {
                rows++;
                script.runRow(trimmed);
            }
        }
    }

    /**
     * Runs the call, a ? in it standing for a number, on a new object behind the setup for each
     * number at the edges of a range: those inside must be taken, those outside refused. A range
     * up to Integer.MAX_VALUE has no upper side.
     */
    static void range(
            String name, String setup, String call, int lowest, int highest, String refusal) {
        Set<Integer> inside = new LinkedHashSet<>(List.of(lowest, highest));
        if (lowest < highest) {
            inside.addAll(List.of(lowest + 1, highest - 1));
        }
        for (int taken : inside) {
            run(name, setup + "\n" + call.replace("?", "" + taken));
        }
        Set<Integer> outside = new LinkedHashSet<>(List.of(lowest - 1, Integer.MIN_VALUE));
        if (highest < Integer.MAX_VALUE) {
            outside.addAll(List.of(highest + 1, Integer.MAX_VALUE));
        }
        for (int refused : outside) {
            run(name, setup + "\n" + call.replace("?", "" + refused) + " ! " + refusal);
        }
    }

    static void end() {
        System.out.println(rows + " rows, " + wrong + " wrong");
        if (wrong > 0 || rows == 0) {
            System.exit(1);
        }
    }

    private void runRow(String row) {
        if (row.matches("\\d+ x .*")) {
            String[] parts = row.split(" x ", 2);
            for (int i = 0; i < Integer.parseInt(parts[0]); i++) {
                for (String call : parts[1].split(";")) {
                    expect(row, "nothing|-?\\d+", outcome(call.trim()));
                }
            }
        } else if (row.contains(" = ") || row.contains(" ! ")) {
            String[] parts = row.split(" [=!] ");
            expect(row, parts[1].trim(), outcome(parts[0].trim()));
        } else {
            expect(row, "nothing|-?\\d+", outcome(row));
        }
    }

    private void expect(String row, String pattern, String got) {
        if (!got.matches(pattern)) {
            wrong++;
            System.out.println(name + ": " + row + ", but the outcome is " + got);
        }
    }

    private String outcome(String call) {
        calls++;
        if (calls > MOST_CALLS) {
            return "call " + calls + " of the run, whose answer is free";
        }
        return Outcome.ofWritten(object, call);
    }
}
