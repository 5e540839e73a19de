/**
 * A refused call changes nothing that a later call shows: written out for each call and reason.
 * NoTraceTest looks at all of the rest in the same way.
 */
public final class RefusedTest {
    public static void main(String[] args) {
        personsAndMoves();
        guests();
        rolls();
        answers();
        seenAndRounds();
        looks();
        maydays();
        evacuations();
        time();
        Script.end();
    }

    private static void personsAndMoves() {
        Script.run("2: no room for a person", """
                60 x person()
                enter(0, 1)
                enter(59, 2)
                person() ! UnsupportedOperationException
                count(1) = 2
                count(5) = 2
                was(0, 0) = 1
                was(59, 0) = 2
                enter(60, 0) ! IllegalArgumentException
                """);
        Script.run("3: unknown numbers", """
                2 x person()
                enter(0, 4)
                enter(2, 5) ! IllegalArgumentException
                enter(-1, 5) ! IllegalArgumentException
                enter(0, 10) ! IllegalArgumentException
                enter(0, -1) ! IllegalArgumentException
                enter(1, 10) ! IllegalArgumentException
                was(0, 0) = 4
                was(1, 0) = -1
                count(1) = 1
                count(5) = 1
                person() = 2
                """);
        Script.run("3: the person is in it", """
                person()
                enter(0, 4)
                roll(4) = 0
                tick(1)
                enter(0, 4) ! IllegalStateException
                count(5) = 1
                was(0, 1) = 4
                rollAt(0, 3) = 1
                2 x round(0)
                missing(0, 0) = 0
                enter(0, 4) ! IllegalStateException
                missing(0, 0) = 0
                """);
        Script.run("3: no room for a move", """
                2 x person()
                150 x enter(0, 4); enter(0, 5)
                tick(1)
                enter(0, 4) ! UnsupportedOperationException
                enter(1, 4) ! UnsupportedOperationException
                was(0, 1) = 5
                was(0, 0) = 5
                was(1, 1) = -1
                count(1) = 1
                count(5) = 300
                roll(4) = 0
                rollAt(0, 1) = 0
                roll(5) = 1
                rollAt(1, 1) = 1
                evacuate(1) = 0
                confirm(4) ! IllegalStateException
                confirm(5) = 0
                mayday(1, 0) ! IllegalStateException
                """);
        Script.run("4: the person is outside", """
                2 x person()
                enter(0, 4)
                leave(0)
                leave(0) ! IllegalStateException
                leave(1) ! IllegalStateException
                leave(2) ! IllegalArgumentException
                count(5) = 2
                count(1) = 0
                enter(0, 4)
                roll(4) = 0
                leave(1) ! IllegalStateException
                rollAt(0, 3) = 1
                """);
        Script.run("4: no room for a move: still inside, open, and then missing", """
                person()
                150 x enter(0, 4); enter(0, 5)
                roll(5) = 0
                leave(0) ! UnsupportedOperationException
                rollAt(0, 3) = 1
                count(1) = 1
                was(0, 0) = 5
                round(0) = 1
                round(0) = 1
                leave(0) ! UnsupportedOperationException
                missing(0, 0) = 0
                mayday(0, 0) = 0
                """);
    }

    private static void guests() {
        Script.run("5: the number stays as it was", """
                guests(0, 7)
                guests(0, -1) ! IndexOutOfBoundsException
                guests(0, 1000) ! IndexOutOfBoundsException
                guests(1, 1000) ! IndexOutOfBoundsException
                guests(-1, 5) ! IllegalArgumentException
                guests(10, 5) ! IllegalArgumentException
                roll(0) = 0
                rollAt(0, 4) = 7
                roll(1) = 1
                rollAt(1, 4) = 0
                2 x round(0)
                roll(-1) = 2
                rollAt(2, 4) = 7
                evacuate(1) = 0
                confirm(1) ! IllegalStateException
                confirm(0) = 0
                """);
    }

    private static void rolls() {
        Script.run("6: a refused roll takes no number, and asks nobody", """
                person()
                enter(0, 1)
                guests(1, 4)
                roll(10) ! IllegalArgumentException
                roll(-2) ! IllegalArgumentException
                roll(1) = 0
                enter(0, 2)
                guests(1, 9)
                roll(1) ! IllegalStateException
                roll(-1) ! IllegalStateException
                rollAt(0, 1) = 1
                rollAt(0, 4) = 4
                rollAt(0, 0) = 1
                count(2) = 1
                mayday(0, 0) = 0
                roll(2) ! IllegalStateException
                rollAt(1, 0) ! IllegalArgumentException
                answered(0)
                roll(2) = 1
                rollAt(1, 1) = 1
                """);
        Script.run("6: no room for a roll", """
                person()
                enter(0, 1)
                40 x roll(0)
                roll(1) ! UnsupportedOperationException
                roll(-1) ! UnsupportedOperationException
                count(2) = 0
                rollAt(39, 1) = 0
                rollAt(39, 0) = 3
                rollAt(0, 0) = 3
                """);
    }

    private static void answers() {
        Script.run("7: unknown numbers are not counted, nor strangers", """
                person()
                enter(0, 0)
                roll(0) = 0
                answer(1, 0, 0) ! IllegalArgumentException
                answer(0, 10, 0) ! IllegalArgumentException
                answer(0, -1, 0) ! IllegalArgumentException
                answer(0, 0, 1) ! IllegalArgumentException
                answer(0, 0, -1) ! IllegalArgumentException
                rollAt(0, 2) = 0
                rollAt(0, 3) = 1
                rollAt(0, 6) = 0
                count(4) = 0
                answer(0, 5, 0) = 1
                """);
        Script.run("7: it is over: nobody is counted, told, or found any more", """
                3 x person()
                enter(0, 0)
                enter(1, 0)
                roll(0) = 0
                2 x round(0)
                roll(0) = 1
                answer(1, 0, 1) = 1
                2 x round(1)
                answer(1, 0, 0) ! IllegalStateException
                answer(1, 5, 1) ! IllegalStateException
                answer(1, 0, 2) ! IllegalStateException
                rollAt(1, 2) = 1
                rollAt(1, 3) = 1
                rollAt(1, 6) = 0
                count(4) = 0
                missing(1, 0) = 0
                missing(0, 0) = 0
                missing(0, 1) = -1
                """);
        Script.run("7: no room for a double", """
                2 x person()
                enter(0, 0)
                roll(0) = 0
                answer(0, 3, 0) = 1
                answer(0, 4, 0) = 3
                99 x answer(0, 5, 0)
                answer(0, 6, 0) ! UnsupportedOperationException
                count(4) = 100
                twice(0, 2) = 4
                twice(99, 2) = 5
                twice(100, 0) ! IllegalArgumentException
                # the first sector stays
                answer(0, 3, 0) = 2
                answer(0, 6, 0) ! UnsupportedOperationException
                rollAt(0, 2) = 1
                rollAt(0, 6) = 0
                """);
    }

    private static void seenAndRounds() {
        Script.run("8: those seen stay as they were", """
                guests(0, 999)
                roll(0) = 0
                seen(0, 9) = 9
                seen(0, -1) ! IndexOutOfBoundsException
                seen(0, 1000) ! IndexOutOfBoundsException
                seen(1, 5) ! IllegalArgumentException
                rollAt(0, 5) = 990
                seen(0, 0) = 9
                2 x round(0)
                seen(0, 5) ! IllegalStateException
                rollAt(0, 5) = 990
                """);
        Script.run("8: above 9,999", """
                guests(0, 999)
                roll(0) = 0
                10 x seen(0, 999)
                seen(0, 10) ! UnsupportedOperationException
                seen(0, 0) = 9990
                seen(0, 9) = 9999
                seen(0, 1) ! UnsupportedOperationException
                seen(0, 0) = 9999
                """);
        Script.run("9: a mayday stops the round, and the roll stays in it", """
                2 x person()
                enter(0, 0)
                enter(1, 0)
                roll(0) = 0
                mayday(0, 0) = 0
                round(0) ! IllegalStateException
                round(0) ! IllegalStateException
                round(1) ! IllegalArgumentException
                rollAt(0, 0) = 1
                rollAt(0, 3) = 2
                answered(0)
                round(0) = 2
                mayday(0, 0) = 1
                round(0) ! IllegalStateException
                rollAt(0, 0) = 2
                missing(0, 0) ! IllegalStateException
                answered(1)
                answer(0, 0, 1) = 1
                round(0) = 1
                missing(0, 0) = 0
                """);
        Script.run("9: it is over, and those missing then stay", """
                2 x person()
                enter(0, 0)
                enter(1, 0)
                roll(0) = 0
                2 x round(0)
                leave(0)
                round(0) ! IllegalStateException
                rollAt(0, 0) = 3
                rollAt(0, 3) = 2
                missing(0, 0) = 1
                count(2) = 0
                """);
    }

    private static void looks() {
        Script.run("10 to 12, 15, 18, 20, 21: a refused look", """
                2 x person()
                enter(0, 0)
                enter(1, 0)
                roll(0) = 0
                answer(0, 0, 0) = 1
                answer(0, 1, 0) = 3
                evacuate(5) = 0
                tick(6) = 1
                mayday(1, 3) = 0
                rollAt(0, 7) ! IllegalArgumentException
                rollAt(1, 0) ! IllegalArgumentException
                missing(0, 0) ! IllegalStateException
                missing(0, -1) ! IndexOutOfBoundsException
                twice(1, 0) ! IllegalArgumentException
                twice(0, 4) ! IllegalArgumentException
                maydayAt(1, 0) ! IllegalArgumentException
                maydayAt(0, 5) ! IllegalArgumentException
                late(1, 0) ! IllegalArgumentException
                late(0, -1) ! IndexOutOfBoundsException
                was(2, 0) ! IllegalArgumentException
                was(0, 7) ! IndexOutOfBoundsException
                count(6) ! IllegalArgumentException
                rollAt(0, 0) = 1
                rollAt(0, 2) = 1
                rollAt(0, 3) = 1
                twice(0, 2) = 1
                maydayAt(0, 1) = 0
                late(0, 0) = 0
                was(0, 6) = 0
                count(0) = 6
                count(4) = 1
                """);
    }

    private static void maydays() {
        Script.run("13: a refused mayday takes no number and no team, and stops nothing", """
                2 x person()
                enter(0, 0)
                mayday(2, 0) ! IllegalArgumentException
                mayday(0, -1) ! IndexOutOfBoundsException
                mayday(0, 1000) ! IndexOutOfBoundsException
                mayday(1, 0) ! IllegalStateException
                count(3) = 0
                maydayAt(0, 0) ! IllegalArgumentException
                roll(0) = 0
                tick(2)
                mayday(0, 5) = 0
                tick(2)
                mayday(0, 6) ! IllegalStateException
                maydayAt(0, 0) = 1
                maydayAt(0, 1) = 0
                maydayAt(0, 3) = 5
                maydayAt(0, 4) = 2
                count(3) = 1
                enter(1, 0)
                mayday(1, 0) = 1
                maydayAt(1, 1) = 1
                """);
        StringBuilder full = new StringBuilder("2 x person()\nenter(0, 0)\nenter(1, 0)\n");
        for (int m = 0; m < 29; m++) {
            full.append("mayday(0, 0) = ").append(m).append("\nanswered(").append(m).append(")\n");
        }
        Script.run("13: no room for a mayday", full + """
                mayday(0, 7) = 29
                mayday(1, 0) ! UnsupportedOperationException
                count(3) = 1
                maydayAt(29, 0) = 1
                maydayAt(29, 1) = 0
                maydayAt(29, 3) = 7
                maydayAt(0, 0) = 0
                maydayAt(0, 1) = -1
                answered(29)
                mayday(1, 0) ! UnsupportedOperationException
                count(3) = 0
                roll(0) = 0
                """);
        Script.run("14: one that was answered frees no team again", """
                7 x person()
                enter(0, 0)
                enter(1, 0)
                enter(2, 0)
                enter(3, 0)
                enter(4, 0)
                enter(5, 0)
                mayday(0, 0) = 0
                mayday(1, 0) = 1
                mayday(2, 0) = 2
                mayday(3, 0) = 3
                mayday(4, 0) = 4
                mayday(5, 0) = 5
                answered(0)
                answered(0) ! IllegalStateException
                answered(6) ! IllegalArgumentException
                answered(-1) ! IllegalArgumentException
                maydayAt(4, 1) = 0
                maydayAt(5, 1) = -1
                maydayAt(0, 1) = -1
                count(3) = 5
                """);
    }

    private static void evacuations() {
        Script.run("16: a refused evacuation takes no number, and asks no sector", """
                evacuate(1) ! IllegalStateException
                guests(0, 1)
                evacuate(0) ! IndexOutOfBoundsException
                evacuate(10001) ! IndexOutOfBoundsException
                late(0, 0) ! IllegalArgumentException
                confirm(0) ! IllegalStateException
                tick(5) = 0
                evacuate(10) = 0
                """);
        Script.run("16: one is on: its sectors and its second stay", """
                guests(0, 1)
                guests(1, 1)
                evacuate(10) = 0
                confirm(1) = 1
                guests(2, 1)
                tick(5) = 0
                evacuate(10) ! IllegalStateException
                evacuate(0) ! IndexOutOfBoundsException
                confirm(2) ! IllegalStateException
                confirm(1) ! IllegalStateException
                tick(5) = 0
                tick(1) = 1
                late(0, 0) = 0
                late(0, 1) = -1
                evacuate(10) ! IllegalStateException
                late(0, 0) = 0
                tick(20) = 0
                confirm(0) = 0
                evacuate(10) = 1
                """);
        Script.run("16: no room for an evacuation", """
                guests(0, 1)
                19 x evacuate(1); confirm(0)
                evacuate(1) = 19
                tick(2) = 1
                confirm(0) = 0
                evacuate(1) ! UnsupportedOperationException
                confirm(0) ! IllegalStateException
                tick(2) = 0
                late(19, 0) = 0
                late(19, 1) = -1
                late(18, 0) = -1
                """);
        Script.run("17: a refused confirmation", """
                guests(0, 1)
                guests(1, 1)
                guests(2, 1)
                evacuate(10) = 0
                confirm(0) = 2
                confirm(0) ! IllegalStateException
                confirm(9) ! IllegalStateException
                confirm(10) ! IllegalArgumentException
                confirm(-1) ! IllegalArgumentException
                tick(11) = 2
                confirm(0) ! IllegalStateException
                late(0, 0) = 1
                confirm(1) = 1
                confirm(1) ! IllegalStateException
                late(0, 0) = 1
                late(0, 1) = 2
                late(0, 2) = -1
                confirm(2) = 0
                confirm(2) ! IllegalStateException
                late(0, 1) = 2
                """);
    }

    private static void time() {
        Script.run("19: a refused tick moves no second, and makes none late", """
                person()
                guests(0, 1)
                evacuate(10) = 0
                tick(10) = 0
                tick(0) ! IndexOutOfBoundsException
                tick(-5) ! IndexOutOfBoundsException
                tick(5001) ! IndexOutOfBoundsException
                tick(2147483647) ! IndexOutOfBoundsException
                count(0) = 10
                late(0, 0) = -1
                was(0, 11) ! IndexOutOfBoundsException
                tick(1) = 1
                """);
        Script.run("19: beyond 99,999", """
                19 x tick(5000)
                guests(0, 1)
                evacuate(4000) = 0
                tick(4000) = 0
                tick(1000) ! IndexOutOfBoundsException
                tick(5000) ! IndexOutOfBoundsException
                count(0) = 99000
                late(0, 0) = -1
                tick(999) = 1
                late(0, 0) = 0
                count(0) = 99999
                """);
    }
}
