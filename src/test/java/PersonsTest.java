/** Promises 1 to 5, 20 and 21: persons, their moves, guests, where they were, and all numbers. */
public final class PersonsTest {
    public static void main(String[] args) {
        Script.run("1: a new object is nobody", """
                count(0) = 0
                count(1) = 0
                count(2) = 0
                count(3) = 0
                count(4) = 0
                count(5) = 0
                enter(0, 0) ! IllegalArgumentException
                rollAt(0, 0) ! IllegalArgumentException
                twice(0, 0) ! IllegalArgumentException
                maydayAt(0, 0) ! IllegalArgumentException
                late(0, 0) ! IllegalArgumentException
                evacuate(1) ! IllegalStateException
                roll(-1) = 0
                rollAt(0, 0) = 3
                rollAt(0, 4) = 0
                """);
        Script.run("2: persons are numbered, outside, and 60 at most", """
                person() = 0
                person() = 1
                count(1) = 0
                was(0, 0) = -1
                leave(1) ! IllegalStateException
                57 x person()
                person() = 59
                person() ! UnsupportedOperationException
                person() ! UnsupportedOperationException
                enter(59, 0)
                enter(60, 0) ! IllegalArgumentException
                """);
        Script.run("3: enter", """
                person() = 0
                enter(0, 0)
                was(0, 0) = 0
                count(1) = 1
                enter(0, 9)
                was(0, 0) = 9
                count(1) = 1
                count(5) = 2
                enter(0, 9) ! IllegalStateException
                count(5) = 2
                """);
        Script.run("3: enter refuses unknown numbers", """
                enter(0, 0) ! IllegalArgumentException
                person() = 0
                enter(-1, 0) ! IllegalArgumentException
                enter(1, 0) ! IllegalArgumentException
                enter(2147483647, 0) ! IllegalArgumentException
                enter(-2147483648, 0) ! IllegalArgumentException
                enter(0, -1) ! IllegalArgumentException
                enter(0, 10) ! IllegalArgumentException
                enter(0, 2147483647) ! IllegalArgumentException
                enter(0, -2147483648) ! IllegalArgumentException
                count(5) = 0
                count(1) = 0
                """);
        Script.run("3 and 4: 300 moves at most, and the state goes before the room", """
                2 x person()
                149 x enter(0, 1); leave(0)
                enter(0, 1)
                count(5) = 299
                enter(0, 2)
                count(5) = 300
                enter(0, 3) ! UnsupportedOperationException
                enter(1, 3) ! UnsupportedOperationException
                leave(0) ! UnsupportedOperationException
                enter(0, 2) ! IllegalStateException
                leave(1) ! IllegalStateException
                enter(0, 10) ! IllegalArgumentException
                leave(2) ! IllegalArgumentException
                count(5) = 300
                count(1) = 1
                was(0, 0) = 2
                """);
        Script.run("4: leave", """
                2 x person()
                enter(0, 4)
                enter(1, 4)
                leave(0)
                count(1) = 1
                count(5) = 3
                was(0, 0) = -1
                leave(0) ! IllegalStateException
                leave(2) ! IllegalArgumentException
                leave(-1) ! IllegalArgumentException
                leave(2147483647) ! IllegalArgumentException
                leave(-2147483648) ! IllegalArgumentException
                count(5) = 3
                enter(0, 4)
                count(1) = 2
                """);
        Script.run("4: a refused move leaves a roll as it was", """
                person()
                148 x enter(0, 1); enter(0, 2)
                enter(0, 1)
                enter(0, 2)
                enter(0, 3)
                enter(0, 4)
                roll(4) = 0
                leave(0) ! UnsupportedOperationException
                round(0) = 1
                round(0) = 1
                missing(0, 0) = 0
                """);
        Script.run("5: guests", """
                guests(0, 999)
                guests(9, 0)
                roll(0) = 0
                rollAt(0, 4) = 999
                roll(9) = 1
                rollAt(1, 0) = 3
                guests(0, 3)
                rollAt(0, 4) = 999
                2 x round(0)
                roll(0) = 2
                rollAt(2, 4) = 3
                count(1) = 0
                count(5) = 0
                """);
        Script.run("5: guests refuses a sector first, then the number", """
                guests(2, 7)
                guests(10, 1) ! IllegalArgumentException
                guests(-1, 1) ! IllegalArgumentException
                guests(10, -1) ! IllegalArgumentException
                guests(2147483647, 1) ! IllegalArgumentException
                guests(-2147483648, 1) ! IllegalArgumentException
                guests(2, -1) ! IndexOutOfBoundsException
                guests(2, 1000) ! IndexOutOfBoundsException
                guests(2, 2147483647) ! IndexOutOfBoundsException
                guests(2, -2147483648) ! IndexOutOfBoundsException
                roll(-1) = 0
                rollAt(0, 4) = 7
                """);
        Script.run("20: where a person was behind all moves of a second", """
                2 x person()
                was(0, 0) = -1
                enter(0, 3)
                enter(0, 5)
                enter(1, 7)
                tick(10)
                was(0, 10) = 5
                leave(0)
                enter(0, 8)
                tick(1)
                leave(0)
                tick(5)
                was(0, 0) = 5
                was(0, 9) = 5
                was(0, 10) = 8
                was(0, 11) = -1
                was(0, 16) = -1
                was(1, 0) = 7
                was(1, 16) = 7
                """);
        Script.run("20: was refuses persons first, then seconds", """
                was(0, 0) ! IllegalArgumentException
                person()
                was(0, 0) = -1
                was(0, 1) ! IndexOutOfBoundsException
                was(0, -1) ! IndexOutOfBoundsException
                was(1, 0) ! IllegalArgumentException
                was(-1, -1) ! IllegalArgumentException
                was(-2147483648, 0) ! IllegalArgumentException
                was(2147483647, 0) ! IllegalArgumentException
                was(0, 2147483647) ! IndexOutOfBoundsException
                was(0, -2147483648) ! IndexOutOfBoundsException
                tick(5000)
                was(0, 5000) = -1
                was(0, 5001) ! IndexOutOfBoundsException
                person()
                was(1, 0) = -1
                """);
        Script.run("21: count", """
                4 x person()
                enter(0, 0)
                enter(1, 1)
                enter(2, 1)
                tick(17)
                roll(0) = 0
                roll(1) = 1
                roll(2) = 2
                answer(0, 0, 0) = 1
                answer(0, 1, 0) = 3
                mayday(0, 0) = 0
                mayday(1, 0) = 1
                leave(2)
                count(0) = 17
                count(1) = 2
                count(2) = 2
                count(3) = 2
                count(4) = 1
                count(5) = 4
                count(6) ! IllegalArgumentException
                count(-1) ! IllegalArgumentException
                count(2147483647) ! IllegalArgumentException
                count(-2147483648) ! IllegalArgumentException
                answered(0)
                count(3) = 1
                answered(1)
                2 x round(0)
                count(2) = 1
                """);
        Script.end();
    }
}
