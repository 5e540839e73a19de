import java.util.ArrayList;
import java.util.LinkedHashMap;
import java.util.List;
import java.util.Map;
import java.util.Set;
import java.util.TreeSet;

/**
 * A refused call changes nothing that a later call shows: in every scene an object that was asked
 * for what it must refuse goes on just as one that was not, whatever is looked at or done next.
 */
public final class NoTraceTest {
    private static final int MOST_CALLS = 512;
    private static final int MOST_REFUSED = 60;
    private static final int MOST_LOOKS = 120;
    /** The throws that the face names, call by call. */
    private static final int KINDS_OF_REFUSALS = 44;

    private static int wrong = 0;
    private static int compared = 0;
    private static final Set<String> KINDS = new TreeSet<>();

    private final String name;
    private final List<String> scene;
    private final List<List<String>> sequels;
    private final List<List<String>> due = new ArrayList<>();

    private NoTraceTest(String name, List<String> scene, List<List<String>> sequels) {
        this.name = name;
        this.scene = scene;
        this.sequels = sequels;
        for (List<String> sequel : sequels) {
            due.add(outcomes(List.of(), sequel));
        }
    }

    public static void main(String[] args) {
        List<String> edges = Scenes.edges();
        List<List<String>> sequels = allSequels();
        for (Map.Entry<String, List<String>> scene : Scenes.all().entrySet()) {
            NoTraceTest test = new NoTraceTest(scene.getKey(), scene.getValue(), sequels);
            test.refusedByCalls(edges).values().forEach(test::tryAll);
        }
        System.out.println(compared + " sequels of refused calls, " + wrong + " wrong");
        if (KINDS.size() != KINDS_OF_REFUSALS) {
            System.out.println("but not each call was refused for each reason: " + KINDS);
            wrong++;
        }
        if (wrong > 0) {
            System.exit(1);
        }
    }

    /** By names of calls and reasons: what this scene refuses. */
    private Map<String, List<String>> refusedByCalls(List<String> edges) {
        Map<String, List<String>> refused = new LinkedHashMap<>();
        for (String call : edges) {
            String outcome = Outcome.ofWritten(begun(), call);
            if (Outcome.isRefusal(outcome)) {
                String kind = Outcome.writtenName(call) + " " + outcome;
                KINDS.add(kind);
                refused.computeIfAbsent(kind, key -> new ArrayList<>()).add(call);
            }
        }
        return refused;
    }

    private RollCalls begun() {
        RollCalls object = new RollCalls();
        for (String call : scene) {
            Outcome.ofWritten(object, call);
        }
        return object;
    }

    /** Refused calls are no trouble to one another, so many of them are tried on one object. */
    private void tryAll(List<String> refused) {
        for (int from = 0; from < refused.size(); from += MOST_REFUSED) {
            tryTogether(refused.subList(from, Math.min(refused.size(), from + MOST_REFUSED)));
        }
    }

    private void tryTogether(List<String> refused) {
        for (int s = 0; s < sequels.size(); s++) {
            List<String> got = outcomes(refused, sequels.get(s));
            compared++;
            if (!got.equals(due.get(s))) {
                wrong++;
                System.out.println(name + ": behind " + refused + " "
                        + firstDifference(sequels.get(s), got, due.get(s)));
            }
        }
    }

    private List<String> outcomes(List<String> refused, List<String> sequel) {
        if (scene.size() + refused.size() + sequel.size() > MOST_CALLS) {
            throw new AssertionError("more than 512 calls: " + name);
        }
        RollCalls object = begun();
        for (String call : refused) {
            Outcome.ofWritten(object, call);
        }
        List<String> outcomes = new ArrayList<>();
        for (String call : sequel) {
            outcomes.add(Outcome.ofWritten(object, call));
        }
        return outcomes;
    }

    private static String firstDifference(List<String> calls, List<String> got, List<String> due) {
        for (int i = 0; i < calls.size(); i++) {
            if (!got.get(i).equals(due.get(i))) {
                return calls.get(i) + " comes to " + got.get(i) + ", due is " + due.get(i);
            }
        }
        return "nothing differs";
    }

    private static List<List<String>> allSequels() {
        List<List<String>> sequels = new ArrayList<>();
        List<String> looks = looks();
        for (int from = 0; from < looks.size(); from += MOST_LOOKS) {
            sequels.add(looks.subList(from, Math.min(looks.size(), from + MOST_LOOKS)));
        }
        sequels.add(joined(times(2, "person()"), numbered(0, 59, "enter(?, 2)"), counts()));
        sequels.add(joined(numbered(0, 59, "enter(?, 0)"), numbered(0, 59, "was(?, 0)")));
        sequels.add(joined(numbered(0, 59, "leave(?)"), numbered(36, 39, "rollAt(?, 3)"), counts()));
        sequels.add(joined(List.of("roll(-1)"), numbered(0, 39, "rollAt(?, 1)"),
                numbered(0, 39, "rollAt(?, 4)"), counts()));
        sequels.add(joined(numbered(0, 9, "roll(?)"), numbered(0, 39, "rollAt(?, 1)"),
                numbered(0, 39, "rollAt(?, 4)"), counts()));
        sequels.add(joined(numbered(0, 30, "answered(?)"), numbered(0, 9, "roll(?)"),
                numbered(0, 39, "rollAt(?, 4)")));
        for (int roll : new int[] {0, 1, 39}) {
            sequels.add(joined(numbered(0, 59, "answer(" + roll + ", 9, ?)"),
                    numbered(0, 3, "answer(" + roll + ", 0, ?)"),
                    numbered(0, 6, "rollAt(" + roll + ", ?)"), numbered(0, 3, "twice(0, ?)")));
        }
        sequels.add(joined(numbered(0, 40, "seen(?, 1)"), numbered(0, 40, "rollAt(?, 5)")));
        sequels.add(joined(numbered(0, 40, "round(?)"), numbered(0, 40, "round(?)"), counts()));
        sequels.add(joined(numbered(0, 59, "mayday(?, 7)"), numbered(0, 30, "maydayAt(?, 1)")));
        sequels.add(joined(numbered(0, 30, "answered(?)"), numbered(0, 30, "maydayAt(?, 1)"),
                counts()));
        sequels.add(joined(numbered(24, 27, "answered(?)"), numbered(24, 30, "maydayAt(?, 1)")));
        sequels.add(joined(List.of("evacuate(1)"), numbered(0, 9, "confirm(?)"),
                List.of("evacuate(1)", "tick(2)"), numbered(0, 20, "late(?, 0)")));
        sequels.add(joined(times(12, "tick(1)"), numbered(0, 20, "late(?, 0)"), counts()));
        sequels.add(joined(times(20, "tick(5000)"), numbered(0, 20, "late(?, 1)"), counts()));
        return sequels;
    }

    /** All that can be looked at without changing anything. */
    private static List<String> looks() {
        List<String> looks = new ArrayList<>(counts());
        for (int what = 0; what <= 6; what++) {
            looks.addAll(numbered(0, 40, "rollAt(?, " + what + ")"));
        }
        for (int i = 0; i <= 2; i++) {
            looks.addAll(numbered(0, 40, "missing(?, " + i + ")"));
            looks.addAll(numbered(0, 20, "late(?, " + i + ")"));
        }
        for (int what = 0; what <= 3; what++) {
            looks.addAll(numbered(0, 3, "twice(?, " + what + ")"));
            looks.addAll(numbered(97, 100, "twice(?, " + what + ")"));
        }
        for (int what = 0; what <= 4; what++) {
            looks.addAll(numbered(0, 30, "maydayAt(?, " + what + ")"));
        }
        for (int second : new int[] {0, 5, 11, 12, 99_998, 99_999}) {
            looks.addAll(numbered(0, 5, "was(?, " + second + ")"));
        }
        looks.addAll(numbered(0, 60, "was(?, 0)"));
        return looks;
    }

    private static List<String> counts() {
        return numbered(0, 5, "count(?)");
    }

    private static List<String> numbered(int first, int last, String call) {
        List<String> calls = new ArrayList<>();
        for (int i = first; i <= last; i++) {
            calls.add(call.replace("?", "" + i));
        }
        return calls;
    }

    private static List<String> times(int times, String call) {
        return numbered(1, times, call);
    }

    @SafeVarargs
    private static List<String> joined(List<String>... parts) {
        List<String> all = new ArrayList<>();
        for (List<String> part : parts) {
            all.addAll(part);
        }
        return all;
    }
}
