/** The most of each kind: the last that there is room for, the one behind it, and what goes on. */
public final class FullTest {
    private static final String FOUR_OPEN_MAYDAYS = """
            6 x person()
            enter(0, 0)
            enter(1, 0)
            enter(2, 0)
            enter(3, 0)
            enter(4, 0)
            enter(5, 0)
            mayday(0, 0) = 0
            mayday(1, 0) = 1
            mayday(2, 0) = 2
            mayday(3, 0) = 3
            """;

    public static void main(String[] args) {
        persons();
        moves();
        rolls();
        doubles();
        maydays();
        teams();
        evacuations();
        allOfTheCalls();
        Script.end();
    }

    private static void persons() {
        Script.run("2: 60 persons, and no 61st", """
                59 x person()
                person() = 59
                person() ! UnsupportedOperationException
                enter(59, 9)
                count(1) = 1
                person() ! UnsupportedOperationException
                leave(59)
                # coming out makes no room: a person stays one
                person() ! UnsupportedOperationException
                enter(60, 0) ! IllegalArgumentException
                was(60, 0) ! IllegalArgumentException
                """);
        Script.run("2, 6 and 7: all 60 are asked, counted and missing", """
                58 x person()
                person() = 58
                person() = 59
                """ + forEach(60, "enter(%d, 3)\n") + """
                count(1) = 60
                roll(3) = 0
                rollAt(0, 1) = 60
                rollAt(0, 3) = 60
                answer(0, 3, 0) = 1
                answer(0, 3, 59) = 1
                round(0) = 58
                round(0) = 58
                rollAt(0, 2) = 2
                missing(0, 0) = 1
                missing(0, 57) = 58
                missing(0, 58) = -1
                """);
    }

    private static void moves() {
        Script.run("3: 300 moves by coming in and going on, and no 301st", """
                2 x person()
                149 x enter(0, 1); enter(0, 2)
                enter(0, 3)
                count(5) = 299
                enter(0, 4)
                count(5) = 300
                enter(0, 5) ! UnsupportedOperationException
                enter(1, 5) ! UnsupportedOperationException
                leave(0) ! UnsupportedOperationException
                count(5) = 300
                count(1) = 1
                was(0, 0) = 4
                was(1, 0) = -1
                # all else goes on
                person() = 2
                roll(4) = 0
                rollAt(0, 1) = 1
                answer(0, 0, 0) = 1
                mayday(0, 0) = 0
                evacuate(1) = 0
                confirm(4) = 0
                tick(1) = 0
                was(0, 1) = 4
                enter(0, 5) ! UnsupportedOperationException
                """);
        Script.run("4: the 300th move is a coming out, and there is no 301st", """
                2 x person()
                enter(1, 0)
                149 x enter(0, 1); leave(0)
                count(5) = 299
                leave(1)
                count(5) = 300
                enter(0, 1) ! UnsupportedOperationException
                enter(1, 1) ! UnsupportedOperationException
                leave(1) ! IllegalStateException
                count(1) = 0
                """);
        Script.run("3 and 4: refused moves are no moves", """
                person()
                enter(0, 0)
                enter(0, 0) ! IllegalStateException
                enter(0, 10) ! IllegalArgumentException
                enter(1, 0) ! IllegalArgumentException
                leave(1) ! IllegalArgumentException
                count(5) = 1
                leave(0)
                leave(0) ! IllegalStateException
                count(5) = 2
                149 x enter(0, 1); leave(0)
                count(5) = 300
                """);
    }

    private static void rolls() {
        Script.run("6: 40 rolls that are over, and no 41st", """
                39 x roll(-1)
                roll(9) = 39
                roll(9) ! UnsupportedOperationException
                roll(-1) ! UnsupportedOperationException
                guests(0, 1)
                roll(0) ! UnsupportedOperationException
                rollAt(39, 0) = 3
                rollAt(40, 0) ! IllegalArgumentException
                count(2) = 0
                """);
        Script.run("6: the 40th is on, and goes on to its end", """
                person()
                enter(0, 5)
                39 x roll(0)
                roll(5) = 39
                count(2) = 1
                roll(0) ! UnsupportedOperationException
                answer(39, 5, 0) = 1
                round(39) = 0
                roll(0) ! UnsupportedOperationException
                round(39) = 0
                count(2) = 0
                roll(5) ! UnsupportedOperationException
                """);
        Script.run("6: ten rolls on at once, one for each sector", """
                2 x person()
                enter(0, 9)
                """ + forEach(10, "guests(%d, 1)\nroll(%<d) = %<d\n") + """
                count(2) = 10
                """ + forEach(10, "roll(%d) ! IllegalStateException\n") + """
                roll(-1) ! IllegalStateException
                rollAt(9, 1) = 1
                rollAt(0, 1) = 0
                2 x round(4)
                count(2) = 9
                roll(4) = 10
                """);
    }

    private static void doubles() {
        Script.run("7: 100 doubles, and no 101st", """
                3 x person()
                enter(0, 0)
                enter(1, 0)
                roll(0) = 0
                answer(0, 0, 0) = 1
                98 x answer(0, 9, 0)
                count(4) = 98
                answer(0, 8, 0) = 3
                answer(0, 7, 0) = 3
                count(4) = 100
                answer(0, 6, 0) ! UnsupportedOperationException
                answer(0, 7, 0) ! UnsupportedOperationException
                count(4) = 100
                twice(98, 2) = 8
                twice(99, 0) = 0
                twice(99, 1) = 0
                twice(99, 2) = 7
                twice(99, 3) = 0
                twice(100, 0) ! IllegalArgumentException
                # what is no double is answered all the same
                answer(0, 6, 1) = 1
                answer(0, 0, 0) = 2
                answer(0, 6, 2) = 4
                answer(0, 5, 1) ! UnsupportedOperationException
                rollAt(0, 2) = 2
                rollAt(0, 6) = 1
                """);
        Script.run("7: 100 in all rolls together: a later roll has no room of its own", """
                person()
                enter(0, 0)
                roll(0) = 0
                answer(0, 0, 0) = 1
                99 x answer(0, 9, 0)
                2 x round(0)
                roll(0) = 1
                answer(1, 3, 0) = 1
                answer(1, 4, 0) = 3
                answer(1, 5, 0) ! UnsupportedOperationException
                answer(1, 3, 0) = 2
                twice(99, 3) = 1
                twice(98, 3) = 0
                """);
    }

    private static void maydays() {
        Script.run("13: 30 maydays that were answered, and no 31st", """
                2 x person()
                enter(0, 0)
                """ + forEach(29, "mayday(0, %d) = %<d\nanswered(%<d)\n") + """
                mayday(0, 1) = 29
                count(3) = 1
                answered(29)
                mayday(0, 0) ! UnsupportedOperationException
                enter(1, 0)
                mayday(1, 0) ! UnsupportedOperationException
                count(3) = 0
                maydayAt(28, 3) = 28
                maydayAt(29, 3) = 1
                maydayAt(30, 0) ! IllegalArgumentException
                answered(30) ! IllegalArgumentException
                # rolls go on: none is open
                roll(0) = 0
                round(0) = 2
                """);
        Script.run("13: 30 open maydays, and no 31st", """
                31 x person()
                """ + forEach(31, "enter(%d, 0)\n") + forEach(30, "mayday(%d, 0) = %<d\n") + """
                count(3) = 30
                mayday(30, 0) ! UnsupportedOperationException
                count(3) = 30
                maydayAt(3, 1) = 3
                maydayAt(4, 1) = -1
                maydayAt(29, 1) = -1
                answered(29)
                mayday(30, 0) ! UnsupportedOperationException
                mayday(29, 0) ! UnsupportedOperationException
                answered(3)
                maydayAt(4, 1) = 3
                """);
    }

    private static void teams() {
        Script.run("13: four teams, and the fifth mayday waits", FOUR_OPEN_MAYDAYS + """
                maydayAt(0, 1) = 0
                maydayAt(1, 1) = 1
                maydayAt(2, 1) = 2
                maydayAt(3, 1) = 3
                mayday(4, 0) = 4
                maydayAt(4, 0) = 1
                maydayAt(4, 1) = -1
                mayday(5, 0) = 5
                maydayAt(5, 1) = -1
                """);
        Script.run("14: the team that comes free goes to the lowest that waits, at once",
                FOUR_OPEN_MAYDAYS + """
                mayday(5, 0) = 4
                mayday(4, 0) = 5
                answered(3)
                maydayAt(3, 0) = 0
                maydayAt(3, 1) = -1
                maydayAt(4, 1) = 3
                maydayAt(5, 1) = -1
                answered(0)
                maydayAt(5, 1) = 0
                maydayAt(4, 1) = 3
                maydayAt(1, 1) = 1
                maydayAt(2, 1) = 2
                """);
        Script.run("14: none waits: the team is free, and the lowest free one goes first",
                FOUR_OPEN_MAYDAYS + """
                answered(3)
                answered(1)
                mayday(4, 0) = 4
                maydayAt(4, 1) = 1
                mayday(5, 0) = 5
                maydayAt(5, 1) = 3
                mayday(1, 0) = 6
                maydayAt(6, 1) = -1
                """);
        Script.run("14: one that waits is answered: no team comes free, and the next waits on",
                FOUR_OPEN_MAYDAYS + """
                mayday(4, 0) = 4
                mayday(5, 0) = 5
                answered(4)
                maydayAt(4, 1) = -1
                maydayAt(5, 1) = -1
                answered(2)
                # number 4 is not open any more: the team goes past it
                maydayAt(4, 1) = -1
                maydayAt(5, 1) = 2
                """);
    }

    private static void evacuations() {
        Script.run("16: 20 evacuations, and no 21st", """
                guests(4, 1)
                19 x evacuate(1); confirm(4)
                evacuate(1) = 19
                confirm(4) = 0
                evacuate(1) ! UnsupportedOperationException
                evacuate(10000) ! UnsupportedOperationException
                confirm(4) ! IllegalStateException
                late(19, 0) = -1
                late(20, 0) ! IllegalArgumentException
                tick(5000) = 0
                evacuate(1) ! UnsupportedOperationException
                """);
        Script.run("16: the 20th goes on to its end", """
                guests(4, 1)
                guests(5, 1)
                19 x evacuate(1); confirm(4); confirm(5)
                evacuate(1) = 19
                confirm(5) = 1
                tick(2) = 1
                late(19, 0) = 4
                late(19, 1) = -1
                late(18, 0) = -1
                confirm(4) = 0
                evacuate(1) ! UnsupportedOperationException
                """);
        Script.run("16: an evacuation that is refused is none", """
                evacuate(1) ! IllegalStateException
                evacuate(0) ! IndexOutOfBoundsException
                guests(4, 1)
                evacuate(10001) ! IndexOutOfBoundsException
                19 x evacuate(1); confirm(4)
                guests(4, 0)
                evacuate(1) ! IllegalStateException
                guests(4, 1)
                evacuate(1) = 19
                """);
    }

    private static void allOfTheCalls() {
        Script.run("an object is used for 512 calls, and the last one is answered too", """
                person()
                enter(0, 0)
                roll(0) = 0
                507 x seen(0, 1)
                seen(0, 0) = 507
                seen(0, 2) = 509
                """);
        Script.run("all of 60 persons, 100 doubles, 40 rolls, 30 maydays and 20 evacuations", """
                60 x person()
                enter(0, 0)
                enter(59, 9)
                roll(0) = 0
                answer(0, 0, 0) = 1
                100 x answer(0, 1, 0)
                39 x roll(1)
                """ + forEach(30, "mayday(59, 0) = %d\nanswered(%<d)\n") + """
                19 x evacuate(1); confirm(0); confirm(9)
                evacuate(1) = 19
                person() ! UnsupportedOperationException
                roll(1) ! UnsupportedOperationException
                answer(0, 2, 0) ! UnsupportedOperationException
                mayday(0, 0) ! UnsupportedOperationException
                count(1) = 2
                count(2) = 1
                count(3) = 0
                count(4) = 100
                count(5) = 2
                20 x tick(4000)
                late(19, 0) = 0
                late(19, 1) = 9
                round(0) = 0
                confirm(0) = 1
                confirm(9) = 0
                evacuate(1) ! UnsupportedOperationException
                """);
    }

    /** The rows so often, with 0, 1, .. in the place of the number. */
    private static String forEach(int times, String rows) {
        StringBuilder all = new StringBuilder();
        for (int i = 0; i < times; i++) {
            all.append(String.format(rows, i));
        }
        return all.toString();
    }
}
