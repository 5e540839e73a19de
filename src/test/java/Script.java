import java.util.Arrays;

/**
 * Runs written calls on one new RollCalls and tells each whose answer is not the one that is due.
 *
 * <p>A row is one of
 * <pre>
 *   call(1, 2)                          it must throw nothing; what it answers is not looked at
 *   call(1, 2) = 3                      it must answer 3
 *   call(1, 2) ! IllegalStateException  it must throw just that class, no class below it
 *   300 x call(1, 2); call(3)           the calls, so often, in turn; none may throw
 *   # words                             a remark
 * </pre>
 */
final class Script {
    private static int wrong = 0;
    private static int rows = 0;

    private final String name;
    private final RollCalls object = new RollCalls();

    private Script(String name) {
        this.name = name;
    }

    static void run(String name, String text) {
        Script script = new Script(name);
        for (String row : text.split("\n")) {
            String trimmed = row.trim();
            if (!trimmed.isEmpty() && !trimmed.startsWith("#")) {
                rows++;
                script.runRow(trimmed);
            }
        }
    }

    static void end() {
        System.out.println(rows + " rows, " + wrong + " wrong");
        if (wrong > 0 || rows == 0) {
            System.exit(1);
        }
    }

    private void runRow(String row) {
        if (row.matches("\\d+ x .*")) {
            String[] parts = row.split(" x ", 2);
            for (int i = 0; i < Integer.parseInt(parts[0]); i++) {
                for (String call : parts[1].split(";")) {
                    expect(row, "nothing|-?\\d+", outcome(call.trim()));
                }
            }
        } else if (row.contains(" = ") || row.contains(" ! ")) {
            String[] parts = row.split(" [=!] ");
            expect(row, parts[1].trim(), outcome(parts[0].trim()));
        } else {
            expect(row, "nothing|-?\\d+", outcome(row));
        }
    }

    private void expect(String row, String pattern, String got) {
        if (!got.matches(pattern)) {
            wrong++;
            System.out.println(name + ": " + row + ", but the outcome is " + got);
        }
    }

    private String outcome(String call) {
        int bracket = call.indexOf('(');
        String inside = call.substring(bracket + 1, call.lastIndexOf(')')).trim();
        int[] arguments = inside.isEmpty() ? new int[0]
                : Arrays.stream(inside.split(",")).map(String::trim)
                        .mapToInt(Integer::parseInt).toArray();
        return Outcome.of(object, call.substring(0, bracket), arguments);
    }
}
