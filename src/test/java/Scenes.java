import java.util.ArrayList;
import java.util.LinkedHashMap;
import java.util.List;
import java.util.Map;

/** States in which the document's boundaries are met, and every call with numbers at its edges. */
final class Scenes {
    private static final int MIN = Integer.MIN_VALUE;
    private static final int MAX = Integer.MAX_VALUE;

    private static final int[] PERSONS = {MIN, -1, 0, 1, 3, 59, 60, MAX};
    private static final int[] SECTORS = {MIN, -2, -1, 0, 1, 9, 10, MAX};
    private static final int[] ROLLS = {MIN, -1, 0, 1, 39, 40, MAX};
    private static final int[] DOUBLES = {MIN, -1, 0, 1, 99, 100, MAX};
    private static final int[] MAYDAYS = {MIN, -1, 0, 1, 4, 29, 30, MAX};
    private static final int[] EVACUATIONS = {MIN, -1, 0, 1, 19, 20, MAX};
    private static final int[] UP_TO_999 = {MIN, -1, 0, 1, 2, 999, 1000, MAX};
    private static final int[] WHATS = {MIN, -1, 0, 1, 2, 3, 4, 5, 6, 7, MAX};
    private static final int[] INDICES = {MIN, -1, 0, 1, 2, 10, MAX};
    private static final int[] DEADLINES = {MIN, -1, 0, 1, 10_000, 10_001, MAX};
    private static final int[] TICKS = {MIN, -1, 0, 1, 2, 4_999, 5_000, 5_001, MAX};
    private static final int[] TIMES = {MIN, -1, 0, 1, 11, 12, 99_998, 99_999, 100_000, MAX};

    private Scenes() {
    }

    /** By names: the calls that lead there; so few that looks fit behind them in 512 calls. */
    static Map<String, List<String>> all() {
        Map<String, List<String>> scenes = new LinkedHashMap<>();
        scenes.put("nothing yet", List.of());
        scenes.put("some of everything", someOfEverything());
        scenes.put("some of everything, a mayday open",
                with(someOfEverything(), "mayday(1, 7)", "mayday(3, 8)"));
        scenes.put("missing in two rolls that are over", with(inside(2), "roll(0)", "round(0)",
                "round(0)", "roll(0)", "answer(1, 0, 1)", "round(1)", "round(1)"));
        scenes.put("60 persons inside, all asked",
                with(inside(60), "guests(0, 999)", "guests(9, 999)", "roll(-1)"));
        scenes.put("300 moves", with(moves(300), "roll(1)"));
        scenes.put("300 moves, a missing person inside",
                with(moves(300), "roll(1)", "round(0)", "round(0)"));
        scenes.put("40 rolls, the last one on", with(rolls(39), "roll(0)", "seen(39, 1)"));
        scenes.put("40 rolls, all over, one with missing persons",
                with(rolls(39), "roll(0)", "round(39)", "round(39)"));
        scenes.put("40 rolls and a mayday open", with(rolls(39), "roll(1)", "mayday(0, 0)"));
        scenes.put("100 doubles", doubles());
        scenes.put("100 doubles, the roll over", with(doubles(), "round(0)", "round(0)"));
        scenes.put("9,998 guests seen", with(seen(), "seen(0, 998)"));
        scenes.put("9,999 guests seen, in the second round",
                with(seen(), "seen(0, 999)", "round(0)"));
        scenes.put("9,999 guests seen, the roll over",
                with(seen(), "seen(0, 999)", "round(0)", "round(0)"));
        scenes.put("30 maydays, all answered", maydays(30));
        scenes.put("30 maydays, six open", sixOpenMaydays());
        scenes.put("20 evacuations, the last one on", with(evacuations(19), "evacuate(10)"));
        scenes.put("20 evacuations, the last one past its second",
                with(evacuations(19), "evacuate(10)", "tick(11)", "confirm(9)"));
        scenes.put("20 evacuations, all over", evacuations(20));
        scenes.put("20 evacuations, all over, and nobody left",
                with(evacuations(20), "guests(0, 0)", "guests(9, 0)"));
        scenes.put("second 99,998", with(ticks(4_998), "evacuate(1)"));
        scenes.put("second 99,999", with(ticks(4_999), "evacuate(1)", "leave(0)", "mayday(1, 3)"));
        return scenes;
    }

    /** Every call of the face with every mixture of its edges. */
    static List<String> edges() {
        List<String> calls = new ArrayList<>();
        add(calls, "person");
        add(calls, "enter", PERSONS, SECTORS);
        add(calls, "leave", PERSONS);
        add(calls, "guests", SECTORS, UP_TO_999);
        add(calls, "roll", SECTORS);
        add(calls, "answer", ROLLS, SECTORS, PERSONS);
        add(calls, "seen", ROLLS, UP_TO_999);
        add(calls, "round", ROLLS);
        add(calls, "rollAt", ROLLS, WHATS);
        add(calls, "missing", ROLLS, INDICES);
        add(calls, "twice", DOUBLES, WHATS);
        add(calls, "mayday", PERSONS, UP_TO_999);
        add(calls, "answered", MAYDAYS);
        add(calls, "maydayAt", MAYDAYS, WHATS);
        add(calls, "evacuate", DEADLINES);
        add(calls, "confirm", SECTORS);
        add(calls, "late", EVACUATIONS, INDICES);
        add(calls, "tick", TICKS);
        add(calls, "was", PERSONS, TIMES);
        add(calls, "count", WHATS);
        return calls;
    }

    private static void add(List<String> calls, String name, int[]... edges) {
        List<String> arguments = List.of("");
        for (int[] values : edges) {
            List<String> longer = new ArrayList<>();
            for (String begun : arguments) {
                for (int value : values) {
                    longer.add(begun.isEmpty() ? "" + value : begun + ", " + value);
                }
            }
            arguments = longer;
        }
        for (String written : arguments) {
            calls.add(name + "(" + written + ")");
        }
    }

    private static List<String> with(List<String> calls, String... more) {
        List<String> all = new ArrayList<>(calls);
        all.addAll(List.of(more));
        return all;
    }

    /** Roll 0 is over and missed 1 and 2, roll 1 is on; an evacuation is on, and so on. */
    private static List<String> someOfEverything() {
        return with(inside(5), "leave(4)", "enter(3, 1)", "guests(1, 2)", "guests(9, 3)",
                "roll(0)", "answer(0, 0, 0)", "answer(0, 1, 0)", "answer(0, 1, 3)", "seen(0, 1)",
                "round(0)", "round(0)", "tick(5)", "leave(2)", "enter(2, 9)", "enter(1, 1)",
                "roll(1)", "answer(1, 1, 3)", "round(1)", "evacuate(6)", "confirm(1)", "tick(7)",
                "mayday(0, 5)", "answered(0)");
    }

    private static List<String> inside(int persons) {
        List<String> calls = new ArrayList<>();
        for (int p = 0; p < persons; p++) {
            calls.add("person()");
            calls.add("enter(" + p + ", 0)");
        }
        return calls;
    }

    /** Two persons go to and fro and end in sector 1; two more are outside. */
    private static List<String> moves(int moves) {
        List<String> calls = new ArrayList<>();
        for (int p = 0; p < 4; p++) {
            calls.add("person()");
        }
        for (int m = 0; m < moves; m++) {
            calls.add("enter(" + m % 2 + ", " + m / 2 % 2 + ")");
        }
        return calls;
    }

    private static List<String> rolls(int rolls) {
        List<String> calls = inside(2);
        calls.add("enter(1, 1)");
        calls.add("guests(0, 2)");
        for (int r = 0; r < rolls; r++) {
            calls.add("roll(9)");
        }
        return calls;
    }

    private static List<String> doubles() {
        List<String> calls = inside(2);
        calls.addAll(List.of("person()", "person()", "roll(0)", "answer(0, 0, 0)"));
        for (int d = 0; d < 100; d++) {
            calls.add("answer(0, " + (1 + d % 9) + ", 0)");
        }
        return calls;
    }

    private static List<String> seen() {
        List<String> calls = inside(2);
        calls.addAll(List.of("guests(0, 5)", "roll(0)"));
        for (int n = 0; n < 9; n++) {
            calls.add("seen(0, 999)");
        }
        calls.add("seen(0, 9)");
        return calls;
    }

    private static List<String> maydays(int maydays) {
        List<String> calls = inside(4);
        for (int m = 0; m < maydays; m++) {
            calls.add("mayday(" + m % 3 + ", 1)");
            calls.add("answered(" + m + ")");
        }
        return calls;
    }

    private static List<String> sixOpenMaydays() {
        List<String> calls = maydays(24);
        calls.addAll(List.of("person()", "enter(4, 0)", "person()", "enter(5, 0)", "person()"));
        for (int p = 0; p < 6; p++) {
            calls.add("mayday(" + p + ", 2)");
        }
        return calls;
    }

    private static List<String> evacuations(int evacuations) {
        List<String> calls = new ArrayList<>(List.of("guests(0, 1)", "guests(9, 1)"));
        for (int e = 0; e < evacuations; e++) {
            calls.addAll(List.of("evacuate(1)", "confirm(9)", "tick(2)", "confirm(0)"));
        }
        return calls;
    }

    private static List<String> ticks(int lastTick) {
        List<String> calls = inside(2);
        for (int t = 0; t < 19; t++) {
            calls.add("tick(5000)");
        }
        calls.add("tick(" + lastTick + ")");
        return calls;
    }
}
