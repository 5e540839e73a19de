/** What is so at first, and what answers when there is nothing, or nothing of a kind, yet. */
public final class NothingYetTest {
    public static void main(String[] args) {
        newObject();
        nothingOfAKind();
        atFirst();
        empty();
        Script.end();
    }

    private static void newObject() {
        Script.run("1: every number of all is 0", """
                count(0) = 0
                count(1) = 0
                count(2) = 0
                count(3) = 0
                count(4) = 0
                count(5) = 0
                """);
        Script.run("1: nobody: no number is known", """
                enter(0, 0) ! IllegalArgumentException
                leave(0) ! IllegalArgumentException
                was(0, 0) ! IllegalArgumentException
                mayday(0, 0) ! IllegalArgumentException
                answer(0, 0, 0) ! IllegalArgumentException
                seen(0, 0) ! IllegalArgumentException
                round(0) ! IllegalArgumentException
                rollAt(0, 0) ! IllegalArgumentException
                missing(0, 0) ! IllegalArgumentException
                twice(0, 0) ! IllegalArgumentException
                answered(0) ! IllegalArgumentException
                maydayAt(0, 0) ! IllegalArgumentException
                late(0, 0) ! IllegalArgumentException
                """);
        Script.run("1: nobody: none to evacuate, none to confirm", """
                evacuate(1) ! IllegalStateException
                evacuate(10000) ! IllegalStateException
                confirm(0) ! IllegalStateException
                confirm(9) ! IllegalStateException
                late(0, 0) ! IllegalArgumentException
                """);
        Script.run("1: the first of each kind is number 0", """
                person() = 0
                roll(-1) = 0
                enter(0, 0)
                mayday(0, 0) = 0
                evacuate(1) = 0
                """);
        Script.run("1: time goes on with nobody", """
                tick(1) = 0
                tick(5000) = 0
                count(0) = 5001
                """);
        Script.run("1: a second object is new too", """
                person() = 0
                count(5) = 0
                """);
    }

    private static void nothingOfAKind() {
        Script.run("7: a roll, but no person", """
                guests(0, 1)
                roll(0) = 0
                answer(0, 0, 0) ! IllegalArgumentException
                answer(0, 0, -1) ! IllegalArgumentException
                rollAt(0, 6) = 0
                """);
        Script.run("7 to 11: a person, but no roll", """
                person()
                enter(0, 0)
                answer(0, 0, 0) ! IllegalArgumentException
                seen(0, 0) ! IllegalArgumentException
                round(0) ! IllegalArgumentException
                rollAt(0, 0) ! IllegalArgumentException
                missing(0, 0) ! IllegalArgumentException
                """);
        Script.run("12: counted, but no double", """
                person()
                enter(0, 0)
                roll(0) = 0
                answer(0, 0, 0) = 1
                answer(0, 0, 0) = 2
                count(4) = 0
                twice(0, 0) ! IllegalArgumentException
                answer(0, 1, 0) = 3
                twice(0, 0) = 0
                twice(1, 0) ! IllegalArgumentException
                """);
        Script.run("14 and 15: somebody inside, but no mayday", """
                person()
                enter(0, 0)
                answered(0) ! IllegalArgumentException
                maydayAt(0, 0) ! IllegalArgumentException
                count(3) = 0
                """);
        Script.run("17 and 18: somebody inside, but no evacuation", """
                person()
                enter(0, 0)
                confirm(0) ! IllegalStateException
                late(0, 0) ! IllegalArgumentException
                tick(1) = 0
                """);
    }

    private static void atFirst() {
        Script.run("2: a person is outside at first, in every second", """
                tick(9)
                person() = 0
                was(0, 0) = -1
                was(0, 9) = -1
                count(1) = 0
                count(5) = 0
                leave(0) ! IllegalStateException
                mayday(0, 0) ! IllegalStateException
                roll(-1) = 0
                rollAt(0, 1) = 0
                evacuate(1) ! IllegalStateException
                enter(0, 0)
                was(0, 8) = -1
                was(0, 9) = 0
                """);
        StringBuilder noGuests = new StringBuilder();
        for (int s = 0; s < 10; s++) {
            noGuests.append("roll(").append(s).append(") = ").append(s).append("\nrollAt(")
                    .append(s).append(", 4) = 0\nrollAt(").append(s).append(", 0) = 3\n");
        }
        Script.run("5: a sector has no guests at first", noGuests.toString());
        Script.run("6 and 10: a roll at first", """
                2 x person()
                enter(0, 0)
                enter(1, 0)
                guests(0, 3)
                roll(0) = 0
                rollAt(0, 0) = 1
                rollAt(0, 1) = 2
                rollAt(0, 2) = 0
                rollAt(0, 3) = 2
                rollAt(0, 4) = 3
                rollAt(0, 5) = 3
                rollAt(0, 6) = 0
                seen(0, 0) = 0
                """);
        Script.run("16: an evacuation at first", """
                guests(0, 1)
                evacuate(1) = 0
                late(0, 0) = -1
                late(0, 1) = -1
                """);
    }

    private static void empty() {
        Script.run("10 and 11: a roll that asked nobody, and no guests", """
                person()
                enter(0, 1)
                roll(0) = 0
                rollAt(0, 0) = 3
                rollAt(0, 1) = 0
                rollAt(0, 2) = 0
                rollAt(0, 3) = 0
                rollAt(0, 4) = 0
                rollAt(0, 5) = 0
                rollAt(0, 6) = 0
                missing(0, 0) = -1
                missing(0, 2147483647) = -1
                count(2) = 0
                round(0) ! IllegalStateException
                seen(0, 0) ! IllegalStateException
                answer(0, 0, 0) ! IllegalStateException
                rollAt(0, 6) = 0
                """);
        Script.run("9 and 11: a roll of guests alone has no person open or missing", """
                guests(0, 5)
                roll(0) = 0
                rollAt(0, 1) = 0
                rollAt(0, 3) = 0
                round(0) = 0
                round(0) = 0
                rollAt(0, 3) = 0
                rollAt(0, 5) = 5
                missing(0, 0) = -1
                """);
        Script.run("11: all were counted: none is missing", """
                person()
                enter(0, 0)
                roll(0) = 0
                answer(0, 0, 0) = 1
                round(0) = 0
                round(0) = 0
                missing(0, 0) = -1
                """);
        Script.run("18: all confirmed: none is late", """
                guests(0, 1)
                evacuate(1) = 0
                confirm(0) = 0
                tick(2) = 0
                late(0, 0) = -1
                late(0, 2147483647) = -1
                """);
    }
}
