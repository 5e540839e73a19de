/**
 * Every range and every kind of number of the document: the last that is taken and the first that
 * is refused, on both sides.
 */
public final class RangesTest {
    private static final String UNKNOWN = "IllegalArgumentException";
    private static final String RANGE = "IndexOutOfBoundsException";

    private static final String TWO_PERSONS_INSIDE = """
            2 x person()
            enter(0, 4)
            enter(1, 5)
            """;
    /** Roll 0 is over and roll 1 is on; there are doubles 0 and 1. */
    private static final String TWO_ROLLS = TWO_PERSONS_INSIDE + """
            roll(4) = 0
            answer(0, 4, 0) = 1
            answer(0, 5, 0) = 3
            answer(0, 6, 0) = 3
            2 x round(0)
            roll(5) = 1
            """;
    private static final String GUESTS_EVERYWHERE = """
            guests(0, 1)
            guests(1, 1)
            guests(2, 1)
            guests(3, 1)
            guests(4, 1)
            guests(5, 1)
            guests(6, 1)
            guests(7, 1)
            guests(8, 1)
            guests(9, 1)
            """;
    private static final String SECOND_95_000 = "19 x tick(5000)\n";
    private static final String SECOND_99_998 = SECOND_95_000 + "tick(4998)\n";

    public static void main(String[] args) {
        sectors();
        persons();
        rolls();
        doublesMaydaysAndEvacuations();
        whats();
        amounts();
        indices();
        time();
        lastTakenHasItsEffect();
        Script.end();
    }

    private static void sectors() {
        Script.range("3: sectors 0 .. 9, from outside", "person()", "enter(0, ?)", 0, 9, UNKNOWN);
        Script.run("3: sectors 0 .. 9, going on", TWO_PERSONS_INSIDE + """
                enter(0, 9)
                enter(0, 10) ! IllegalArgumentException
                enter(0, 0)
                enter(0, -1) ! IllegalArgumentException
                was(0, 0) = 0
                count(1) = 2
                """);
        Script.range("5: sectors 0 .. 9", "", "guests(?, 1)", 0, 9, UNKNOWN);
        Script.range("6: sectors 0 .. 9, and -1 for all", "", "roll(?)", -1, 9, UNKNOWN);
        Script.range("6: sectors 0 .. 9, and -1 for all, with guests in each", GUESTS_EVERYWHERE,
                "roll(?)", -1, 9, UNKNOWN);
        Script.range("7: any sector 0 .. 9 counts", TWO_ROLLS, "answer(1, ?, 1)", 0, 9, UNKNOWN);
        Script.range("7: any sector 0 .. 9 tells a stranger", TWO_ROLLS, "answer(1, ?, 0)", 0, 9,
                UNKNOWN);
        Script.range("17: sectors 0 .. 9", GUESTS_EVERYWHERE + "evacuate(1)", "confirm(?)", 0, 9,
                UNKNOWN);
    }

    private static void persons() {
        for (int persons = 1; persons <= 60; persons += 59) {
            String there = persons + " x person()\n";
            String which = " of " + persons + " person(s)";
            Script.range("3: numbers" + which, there, "enter(?, 0)", 0, persons - 1, UNKNOWN);
            Script.range("20: numbers" + which, there, "was(?, 0)", 0, persons - 1, UNKNOWN);
            Script.range("7: numbers" + which, there + "guests(0, 1)\nroll(0) = 0",
                    "answer(0, 0, ?)", 0, persons - 1, UNKNOWN);
            String inside = allInside(persons);
            Script.range("4: numbers" + which, inside, "leave(?)", 0, persons - 1, UNKNOWN);
            Script.range("7: numbers asked" + which, inside + "roll(0) = 0",
                    "answer(0, 0, ?)", 0, persons - 1, UNKNOWN);
            Script.range("13: numbers" + which, inside, "mayday(?, 0)", 0, persons - 1, UNKNOWN);
        }
    }

    private static String allInside(int persons) {
        StringBuilder rows = new StringBuilder();
        for (int p = 0; p < persons; p++) {
            rows.append("person() = ").append(p).append("\nenter(").append(p).append(", 0)\n");
        }
        return rows.toString();
    }

    private static void rolls() {
        Script.range("10: roll numbers", TWO_ROLLS, "rollAt(?, 0)", 0, 1, UNKNOWN);
        String bothOn = """
                person()
                enter(0, 0)
                guests(1, 1)
                roll(0) = 0
                roll(1) = 1
                """;
        Script.range("7: roll numbers", bothOn, "answer(?, 0, 0)", 0, 1, UNKNOWN);
        Script.range("8: roll numbers", bothOn, "seen(?, 0)", 0, 1, UNKNOWN);
        Script.range("9: roll numbers", bothOn, "round(?)", 0, 1, UNKNOWN);
        String bothOver = "2 x roll(-1)";
        Script.range("11: roll numbers", bothOver, "missing(?, 0)", 0, 1, UNKNOWN);
        Script.range("10: roll numbers", bothOver, "rollAt(?, 0)", 0, 1, UNKNOWN);
        String forty = """
                38 x roll(0)
                guests(0, 1)
                guests(1, 1)
                roll(0) = 38
                roll(1) = 39
                """;
        Script.range("10: numbers of 40 rolls", forty, "rollAt(?, 6)", 0, 39, UNKNOWN);
        Script.run("7 to 11: the last of 40 rolls, and the number behind it", forty + """
                person()
                answer(39, 0, 0) = 4
                answer(40, 0, 0) ! IllegalArgumentException
                seen(39, 1) = 1
                seen(40, 1) ! IllegalArgumentException
                round(39) = 0
                round(40) ! IllegalArgumentException
                round(39) = 0
                missing(39, 0) = -1
                missing(40, 0) ! IllegalArgumentException
                """);
    }

    private static void doublesMaydaysAndEvacuations() {
        Script.range("12: numbers of doubles", TWO_ROLLS, "twice(?, 0)", 0, 1, UNKNOWN);
        String twoMaydays = TWO_PERSONS_INSIDE + """
                mayday(0, 0) = 0
                mayday(1, 0) = 1
                """;
        Script.range("14: numbers of maydays", twoMaydays, "answered(?)", 0, 1, UNKNOWN);
        Script.range("15: numbers of maydays", twoMaydays, "maydayAt(?, 0)", 0, 1, UNKNOWN);
        String twoEvacuations = TWO_PERSONS_INSIDE + """
                evacuate(1) = 0
                confirm(4) = 1
                confirm(5) = 0
                evacuate(1) = 1
                """;
        Script.range("18: numbers of evacuations", twoEvacuations, "late(?, 0)", 0, 1, UNKNOWN);
        Script.range("18: numbers of evacuations, 20 of them", """
                guests(0, 1)
                20 x evacuate(1); confirm(0)
                """, "late(?, 0)", 0, 19, UNKNOWN);
    }

    private static void whats() {
        Script.range("10: what 0 .. 6 of a roll that is over", TWO_ROLLS, "rollAt(0, ?)", 0, 6,
                UNKNOWN);
        Script.range("10: what 0 .. 6 of a roll that is on", TWO_ROLLS, "rollAt(1, ?)", 0, 6,
                UNKNOWN);
        Script.range("12: what 0 .. 3", TWO_ROLLS, "twice(1, ?)", 0, 3, UNKNOWN);
        String mayday = TWO_PERSONS_INSIDE + "mayday(1, 5)\n";
        Script.range("15: what 0 .. 4 of one that is open", mayday, "maydayAt(0, ?)", 0, 4, UNKNOWN);
        Script.range("15: what 0 .. 4 of one that is answered", mayday + "answered(0)",
                "maydayAt(0, ?)", 0, 4, UNKNOWN);
        Script.range("21: what 0 .. 5 of a new object", "", "count(?)", 0, 5, UNKNOWN);
        Script.range("21: what 0 .. 5", TWO_ROLLS, "count(?)", 0, 5, UNKNOWN);
    }

    private static void amounts() {
        Script.range("5: guests 0 .. 999", "", "guests(9, ?)", 0, 999, RANGE);
        Script.range("5: guests 0 .. 999, once there are some", "guests(9, 999)", "guests(9, ?)",
                0, 999, RANGE);
        Script.range("8: n 0 .. 999", TWO_ROLLS, "seen(1, ?)", 0, 999, RANGE);
        Script.range("8: n 0 .. 999, added to those seen before", TWO_ROLLS + "9 x seen(1, 999)",
                "seen(1, ?)", 0, 999, RANGE);
        Script.range("13: places 0 .. 999", TWO_PERSONS_INSIDE, "mayday(1, ?)", 0, 999, RANGE);
        Script.range("16: seconds 1 .. 10,000", TWO_PERSONS_INSIDE, "evacuate(?)", 1, 10_000, RANGE);
        Script.range("16: seconds 1 .. 10,000, at the end of time",
                SECOND_99_998 + "tick(1)\nguests(0, 1)", "evacuate(?)", 1, 10_000, RANGE);
        Script.run("8: 9,999 in all, and each roll has its own", """
                guests(0, 1)
                guests(1, 1)
                roll(0) = 0
                roll(1) = 1
                10 x seen(0, 999)
                seen(0, 10) ! UnsupportedOperationException
                seen(0, 8) = 9998
                seen(0, 2) ! UnsupportedOperationException
                seen(0, 1) = 9999
                seen(0, 1) ! UnsupportedOperationException
                seen(0, 999) ! UnsupportedOperationException
                seen(0, 0) = 9999
                10 x seen(1, 999)
                seen(1, 9) = 9999
                seen(1, 1) ! UnsupportedOperationException
                """);
    }

    private static void indices() {
        int noEnd = Integer.MAX_VALUE;
        Script.range("11: i from 0, nobody missing", "roll(0)", "missing(0, ?)", 0, noEnd, RANGE);
        Script.range("11: i from 0, one missing", TWO_ROLLS + "2 x round(1)", "missing(1, ?)", 0,
                noEnd, RANGE);
        String begun = GUESTS_EVERYWHERE + "evacuate(1)\n";
        Script.range("18: i from 0, none late", begun, "late(0, ?)", 0, noEnd, RANGE);
        Script.range("18: i from 0, ten late", begun + "tick(2) = 10", "late(0, ?)", 0, noEnd,
                RANGE);
        Script.run("11: as many as there are, and -1 behind them", TWO_PERSONS_INSIDE + """
                roll(-1) = 0
                2 x round(0)
                missing(0, 0) = 0
                missing(0, 1) = 1
                missing(0, 2) = -1
                missing(0, 2147483647) = -1
                """);
        Script.run("18: as many as there are, and -1 behind them", begun + """
                tick(2) = 10
                late(0, 0) = 0
                late(0, 1) = 1
                late(0, 8) = 8
                late(0, 9) = 9
                late(0, 10) = -1
                late(0, 2147483647) = -1
                """);
    }

    private static void time() {
        Script.range("19: seconds 1 .. 5,000", "", "tick(?)", 1, 5_000, RANGE);
        Script.range("19: up to 99,999", SECOND_95_000, "tick(?)", 1, 4_999, RANGE);
        Script.range("19: up to 99,999, from 99,998", SECOND_99_998, "tick(?)", 1, 1, RANGE);
        Script.range("19: 5,000 seconds up to 99,999", "18 x tick(5000)\ntick(4999)", "tick(?)",
                1, 5_000, RANGE);
        Script.run("19: no second behind 99,999", SECOND_99_998 + """
                tick(2) ! IndexOutOfBoundsException
                count(0) = 99998
                tick(1) = 0
                count(0) = 99999
                tick(1) ! IndexOutOfBoundsException
                tick(5000) ! IndexOutOfBoundsException
                tick(5001) ! IndexOutOfBoundsException
                tick(0) ! IndexOutOfBoundsException
                tick(-1) ! IndexOutOfBoundsException
                tick(-99999) ! IndexOutOfBoundsException
                tick(2147483647) ! IndexOutOfBoundsException
                tick(-2147483648) ! IndexOutOfBoundsException
                count(0) = 99999
                """);
        Script.range("20: second 0 alone", "person()", "was(0, ?)", 0, 0, RANGE);
        Script.range("20: seconds up to now", "person()\ntick(7)", "was(0, ?)", 0, 7, RANGE);
        Script.range("20: seconds up to 99,999", "person()\n" + SECOND_99_998 + "tick(1)",
                "was(0, ?)", 0, 99_999, RANGE);
    }

    private static void lastTakenHasItsEffect() {
        Script.run("5: 999 guests in each of ten sectors are asked, and 9,990 are missing", """
                guests(0, 999)
                guests(1, 999)
                guests(2, 999)
                guests(3, 999)
                guests(4, 999)
                guests(5, 999)
                guests(6, 999)
                guests(7, 999)
                guests(8, 999)
                guests(9, 999)
                roll(-1) = 0
                rollAt(0, 4) = 9990
                rollAt(0, 5) = 9990
                10 x seen(0, 999)
                rollAt(0, 5) = 0
                seen(0, 9) = 9999
                rollAt(0, 5) = 0
                rollAt(0, 4) = 9990
                """);
        Script.run("5: one guest missing, none, and never less than none", """
                guests(9, 2)
                roll(9) = 0
                rollAt(0, 5) = 2
                seen(0, 1) = 1
                rollAt(0, 5) = 1
                seen(0, 1) = 2
                rollAt(0, 5) = 0
                seen(0, 1) = 3
                rollAt(0, 5) = 0
                2 x round(0)
                rollAt(0, 5) = 0
                """);
        Script.run("13: places 0 and 999, told at seconds 0 and 99,999", TWO_PERSONS_INSIDE + """
                mayday(0, 0) = 0
                """ + SECOND_99_998 + """
                tick(1)
                mayday(1, 999) = 1
                maydayAt(0, 3) = 0
                maydayAt(0, 4) = 0
                maydayAt(1, 3) = 999
                maydayAt(1, 4) = 99999
                """);
        Script.run("16: 1 second", GUESTS_EVERYWHERE + """
                evacuate(1) = 0
                tick(1) = 0
                late(0, 0) = -1
                tick(1) = 10
                """);
        Script.run("16: 10,000 seconds", GUESTS_EVERYWHERE + """
                evacuate(10000) = 0
                tick(5000) = 0
                tick(5000) = 0
                late(0, 0) = -1
                tick(1) = 10
                """);
        Script.run("16 and 19: the last second of time is in time, and nothing is behind it",
                SECOND_95_000 + """
                guests(3, 1)
                evacuate(4999) = 0
                tick(4999) = 0
                late(0, 0) = -1
                tick(1) ! IndexOutOfBoundsException
                late(0, 0) = -1
                confirm(3) = 0
                """);
        Script.run("16 and 19: late in the last second of time", SECOND_95_000 + """
                guests(3, 1)
                evacuate(4998) = 0
                tick(4999) = 1
                late(0, 0) = 3
                """);
        Script.run("20: a move in the last second of time", TWO_PERSONS_INSIDE + SECOND_99_998 + """
                tick(1)
                leave(0)
                enter(1, 9)
                was(0, 99998) = 4
                was(0, 99999) = -1
                was(1, 99998) = 5
                was(1, 99999) = 9
                """);
    }
}
