/**
 * Calls that could be refused for two reasons, or more, at once: unknown numbers go before ranges,
 * ranges before the state, the state before the room.
 */
public final class RefusalOrderTest {
    private static final String MOVES_FULL = """
            2 x person()
            150 x enter(0, 1); enter(0, 2)
            count(5) = 300
            """;
    private static final String DOUBLES_FULL = """
            2 x person()
            enter(0, 0)
            roll(0) = 0
            answer(0, 0, 0) = 1
            100 x answer(0, 1, 0)
            """;
    private static final String ROLLS_FULL = """
            person()
            enter(0, 1)
            guests(2, 1)
            39 x roll(0)
            roll(1) = 39
            """;
    private static final String SEEN_FULL = """
            guests(0, 1)
            roll(0) = 0
            10 x seen(0, 999)
            seen(0, 9) = 9999
            """;
    private static final String EVACUATIONS_FULL = """
            guests(0, 1)
            20 x evacuate(1); confirm(0)
            """;

    public static void main(String[] args) {
        moves();
        rolls();
        answers();
        seen();
        roundsAndMissing();
        maydays();
        evacuations();
        twoOfOneKind();
        Script.end();
    }

    private static void moves() {
        Script.run("3: an unknown number before the room", MOVES_FULL + """
                enter(2, 1) ! IllegalArgumentException
                enter(-1, 1) ! IllegalArgumentException
                enter(0, 10) ! IllegalArgumentException
                enter(0, -1) ! IllegalArgumentException
                enter(1, 10) ! IllegalArgumentException
                """);
        Script.run("3: the sector -1 is unknown, also to one who is outside", """
                person()
                enter(0, -1) ! IllegalArgumentException
                """);
        Script.run("3: the state before the room", MOVES_FULL + """
                enter(0, 2) ! IllegalStateException
                enter(0, 1) ! UnsupportedOperationException
                """);
        Script.run("4: an unknown number before the room", MOVES_FULL + """
                leave(2) ! IllegalArgumentException
                leave(-1) ! IllegalArgumentException
                """);
        Script.run("4: the state before the room", MOVES_FULL + """
                leave(1) ! IllegalStateException
                leave(0) ! UnsupportedOperationException
                """);
        Script.run("5: an unknown number before the range", """
                guests(10, -1) ! IllegalArgumentException
                guests(10, 1000) ! IllegalArgumentException
                guests(-1, -1) ! IllegalArgumentException
                guests(-1, 1000) ! IllegalArgumentException
                """);
        Script.run("20: an unknown number before the range", """
                was(0, -1) ! IllegalArgumentException
                was(0, 1) ! IllegalArgumentException
                person()
                was(1, -1) ! IllegalArgumentException
                was(1, 1) ! IllegalArgumentException
                was(-1, -1) ! IllegalArgumentException
                was(-1, 1) ! IllegalArgumentException
                """);
    }

    private static void rolls() {
        Script.run("6: an unknown number before the state (a roll of all is on)", """
                guests(0, 1)
                roll(-1) = 0
                roll(-2) ! IllegalArgumentException
                roll(10) ! IllegalArgumentException
                roll(-1) ! IllegalStateException
                """);
        Script.run("6: an unknown number before the state (a mayday is open)", """
                person()
                enter(0, 0)
                mayday(0, 0) = 0
                roll(-2) ! IllegalArgumentException
                roll(10) ! IllegalArgumentException
                roll(9) ! IllegalStateException
                """);
        Script.run("6: an unknown number before the room", ROLLS_FULL + """
                roll(-2) ! IllegalArgumentException
                roll(10) ! IllegalArgumentException
                """);
        Script.run("6: the state (a roll is on) before the room", ROLLS_FULL + """
                roll(1) ! IllegalStateException
                roll(-1) ! IllegalStateException
                roll(2) ! UnsupportedOperationException
                round(39) = 1
                roll(1) ! IllegalStateException
                round(39) = 1
                roll(1) ! UnsupportedOperationException
                roll(-1) ! UnsupportedOperationException
                """);
        Script.run("6: the state (a mayday is open) before the room", ROLLS_FULL + """
                2 x round(39)
                mayday(0, 0) = 0
                roll(2) ! IllegalStateException
                roll(1) ! IllegalStateException
                roll(-1) ! IllegalStateException
                roll(10) ! IllegalArgumentException
                answered(0)
                roll(2) ! UnsupportedOperationException
                """);
        Script.run("6: both states at once", """
                person()
                enter(0, 0)
                roll(0) = 0
                mayday(0, 0) = 0
                roll(0) ! IllegalStateException
                2 x rollAt(0, 0)
                answered(0)
                roll(0) ! IllegalStateException
                2 x round(0)
                mayday(0, 0) = 1
                roll(0) ! IllegalStateException
                answered(1)
                roll(0) = 1
                """);
    }

    private static void answers() {
        Script.run("7: an unknown number before the state", """
                person()
                enter(0, 0)
                roll(0) = 0
                2 x round(0)
                answer(0, 10, 0) ! IllegalArgumentException
                answer(0, -1, 0) ! IllegalArgumentException
                answer(0, 0, 1) ! IllegalArgumentException
                answer(0, 0, -1) ! IllegalArgumentException
                answer(0, 0, 0) ! IllegalStateException
                """);
        Script.run("7: an unknown number before the room", DOUBLES_FULL + """
                answer(1, 1, 0) ! IllegalArgumentException
                answer(-1, 1, 0) ! IllegalArgumentException
                answer(0, 10, 0) ! IllegalArgumentException
                answer(0, -1, 0) ! IllegalArgumentException
                answer(0, 1, 2) ! IllegalArgumentException
                answer(0, 1, 0) ! UnsupportedOperationException
                """);
        Script.run("7: the state before the room", DOUBLES_FULL + """
                round(0) = 0
                answer(0, 1, 0) ! UnsupportedOperationException
                round(0) = 0
                answer(0, 1, 0) ! IllegalStateException
                answer(0, 0, 0) ! IllegalStateException
                answer(0, 0, 1) ! IllegalStateException
                """);
    }

    private static void seen() {
        Script.run("8: an unknown number before the range", """
                seen(0, -1) ! IllegalArgumentException
                seen(0, 1000) ! IllegalArgumentException
                guests(0, 1)
                roll(0) = 0
                seen(1, -1) ! IllegalArgumentException
                seen(1, 1000) ! IllegalArgumentException
                seen(-1, -1) ! IllegalArgumentException
                seen(-1, 1000) ! IllegalArgumentException
                """);
        Script.run("8: the range before the state", """
                roll(0) = 0
                seen(0, -1) ! IndexOutOfBoundsException
                seen(0, 1000) ! IndexOutOfBoundsException
                seen(0, 999) ! IllegalStateException
                seen(0, 0) ! IllegalStateException
                """);
        Script.run("8: the range before the room", SEEN_FULL + """
                seen(0, 1000) ! IndexOutOfBoundsException
                seen(0, 2147483647) ! IndexOutOfBoundsException
                seen(0, -1) ! IndexOutOfBoundsException
                seen(0, 999) ! UnsupportedOperationException
                """);
        Script.run("8: the range, then the state, before the room", SEEN_FULL + """
                2 x round(0)
                seen(0, 1000) ! IndexOutOfBoundsException
                seen(0, -1) ! IndexOutOfBoundsException
                seen(0, 999) ! IllegalStateException
                seen(0, 1) ! IllegalStateException
                seen(0, 0) ! IllegalStateException
                """);
    }

    private static void roundsAndMissing() {
        Script.run("9: an unknown number before the state (a mayday is open)", """
                person()
                enter(0, 0)
                mayday(0, 0) = 0
                round(0) ! IllegalArgumentException
                round(-1) ! IllegalArgumentException
                """);
        Script.run("9: it is over, and a mayday is open", """
                person()
                enter(0, 0)
                roll(5) = 0
                mayday(0, 0) = 0
                round(0) ! IllegalStateException
                answered(0)
                round(0) ! IllegalStateException
                """);
        Script.run("11: an unknown number before the range", """
                missing(0, -1) ! IllegalArgumentException
                roll(0) = 0
                missing(1, -1) ! IllegalArgumentException
                missing(-1, -1) ! IllegalArgumentException
                """);
        Script.run("11: the range before the state", """
                guests(0, 1)
                roll(0) = 0
                missing(0, -1) ! IndexOutOfBoundsException
                missing(0, 0) ! IllegalStateException
                round(0) = 0
                missing(0, -1) ! IndexOutOfBoundsException
                missing(0, 0) ! IllegalStateException
                round(0) = 0
                missing(0, -1) ! IndexOutOfBoundsException
                missing(0, 0) = -1
                """);
    }

    private static void maydays() {
        Script.run("13: an unknown number before the range", """
                mayday(0, -1) ! IllegalArgumentException
                mayday(0, 1000) ! IllegalArgumentException
                person()
                mayday(1, -1) ! IllegalArgumentException
                mayday(-1, 1000) ! IllegalArgumentException
                """);
        Script.run("13: the range before the state (outside)", """
                person()
                mayday(0, -1) ! IndexOutOfBoundsException
                mayday(0, 1000) ! IndexOutOfBoundsException
                mayday(0, 0) ! IllegalStateException
                """);
        Script.run("13: the range before the state (one is open)", """
                person()
                enter(0, 0)
                mayday(0, 0) = 0
                mayday(0, -1) ! IndexOutOfBoundsException
                mayday(0, 1000) ! IndexOutOfBoundsException
                mayday(0, 999) ! IllegalStateException
                """);
        StringBuilder full = new StringBuilder("2 x person()\nenter(0, 0)\n");
        for (int m = 0; m < 29; m++) {
            full.append("mayday(0, 0) = ").append(m).append("\nanswered(").append(m).append(")\n");
        }
        full.append("mayday(0, 0) = 29\n");
        Script.run("13: all before the room", full + """
                mayday(2, 0) ! IllegalArgumentException
                mayday(2, 1000) ! IllegalArgumentException
                mayday(0, 1000) ! IndexOutOfBoundsException
                mayday(1, -1) ! IndexOutOfBoundsException
                # one is open
                mayday(0, 0) ! IllegalStateException
                # outside
                mayday(1, 0) ! IllegalStateException
                answered(29)
                mayday(1, 0) ! IllegalStateException
                mayday(0, 1000) ! IndexOutOfBoundsException
                mayday(0, 0) ! UnsupportedOperationException
                """);
        Script.run("13: outside, and one is open", """
                person()
                enter(0, 0)
                mayday(0, 0) = 0
                leave(0)
                mayday(0, 0) ! IllegalStateException
                mayday(0, 1000) ! IndexOutOfBoundsException
                """);
    }

    private static void evacuations() {
        Script.run("16: the range before the state (nobody)", """
                evacuate(0) ! IndexOutOfBoundsException
                evacuate(10001) ! IndexOutOfBoundsException
                evacuate(1) ! IllegalStateException
                """);
        Script.run("16: the range before the state (one is on)", """
                guests(0, 1)
                evacuate(1) = 0
                evacuate(0) ! IndexOutOfBoundsException
                evacuate(10001) ! IndexOutOfBoundsException
                evacuate(10000) ! IllegalStateException
                """);
        Script.run("16: one is on, and nobody would have to confirm", """
                guests(0, 1)
                evacuate(1) = 0
                guests(0, 0)
                evacuate(1) ! IllegalStateException
                confirm(0) = 0
                evacuate(1) ! IllegalStateException
                """);
        Script.run("16: the range before the room", EVACUATIONS_FULL + """
                evacuate(0) ! IndexOutOfBoundsException
                evacuate(10001) ! IndexOutOfBoundsException
                evacuate(1) ! UnsupportedOperationException
                """);
        Script.run("16: the state (nobody) before the room", EVACUATIONS_FULL + """
                guests(0, 0)
                evacuate(1) ! IllegalStateException
                evacuate(0) ! IndexOutOfBoundsException
                guests(9, 1)
                evacuate(1) ! UnsupportedOperationException
                """);
        Script.run("16: the state (one is on) before the room", """
                guests(0, 1)
                19 x evacuate(1); confirm(0)
                evacuate(1) = 19
                evacuate(1) ! IllegalStateException
                evacuate(10001) ! IndexOutOfBoundsException
                confirm(0) = 0
                evacuate(1) ! UnsupportedOperationException
                """);
        Script.run("17: an unknown number before the state", """
                confirm(-1) ! IllegalArgumentException
                confirm(10) ! IllegalArgumentException
                confirm(0) ! IllegalStateException
                guests(0, 1)
                evacuate(1) = 0
                confirm(-1) ! IllegalArgumentException
                confirm(10) ! IllegalArgumentException
                confirm(1) ! IllegalStateException
                confirm(0) = 0
                confirm(10) ! IllegalArgumentException
                confirm(0) ! IllegalStateException
                """);
        Script.run("18: an unknown number before the range", """
                late(0, -1) ! IllegalArgumentException
                guests(0, 1)
                evacuate(1) = 0
                late(1, -1) ! IllegalArgumentException
                late(-1, -1) ! IllegalArgumentException
                late(0, -1) ! IndexOutOfBoundsException
                """);
    }

    private static void twoOfOneKind() {
        Script.run("10, 12, 15: no such number, and no such what", """
                rollAt(0, 7) ! IllegalArgumentException
                twice(0, 4) ! IllegalArgumentException
                maydayAt(0, 5) ! IllegalArgumentException
                rollAt(-1, -1) ! IllegalArgumentException
                twice(-1, -1) ! IllegalArgumentException
                maydayAt(-1, -1) ! IllegalArgumentException
                """);
        Script.run("3 and 7: no such person, and no such sector", """
                enter(0, 10) ! IllegalArgumentException
                enter(-1, -1) ! IllegalArgumentException
                answer(0, 10, 0) ! IllegalArgumentException
                answer(-1, -1, -1) ! IllegalArgumentException
                """);
        Script.run("19: the seconds, and beyond 99,999", """
                19 x tick(5000)
                tick(4999)
                tick(5001) ! IndexOutOfBoundsException
                tick(0) ! IndexOutOfBoundsException
                count(0) = 99999
                """);
    }
}
