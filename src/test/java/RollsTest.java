/** Promises 6 to 12: rolls, their answers and rounds, the missing, and doubles. */
public final class RollsTest {
    public static void main(String[] args) {
        beginning();
        answering();
        rounds();
        missingAndFound();
        doubles();
        Script.end();
    }

    private static void beginning() {
        Script.run("6: a roll asks those who are inside as it begins", """
                4 x person()
                enter(0, 2)
                enter(1, 2)
                enter(2, 3)
                guests(2, 5)
                guests(3, 6)
                roll(2) = 0
                enter(3, 2)
                leave(0)
                guests(2, 9)
                person() = 4
                enter(4, 2)
                rollAt(0, 0) = 1
                rollAt(0, 1) = 2
                rollAt(0, 4) = 5
                answer(0, 2, 3) = 4
                answer(0, 2, 4) = 4
                answer(0, 2, 2) = 4
                answer(0, 2, 1) = 1
                """);
        Script.run("6: a roll of all asks all sectors, and none who is outside", """
                4 x person()
                enter(0, 0)
                enter(1, 9)
                enter(2, 4)
                leave(2)
                guests(0, 999)
                guests(9, 999)
                guests(5, 1)
                roll(-1) = 0
                rollAt(0, 1) = 2
                rollAt(0, 4) = 1999
                answer(0, 0, 2) = 4
                answer(0, 0, 3) = 4
                """);
        Script.run("6: a roll that asks nobody is over at once", """
                person()
                roll(-1) = 0
                rollAt(0, 0) = 3
                rollAt(0, 3) = 0
                missing(0, 0) = -1
                round(0) ! IllegalStateException
                answer(0, 0, 0) ! IllegalStateException
                seen(0, 1) ! IllegalStateException
                roll(0) = 1
                count(2) = 0
                guests(0, 1)
                roll(0) = 2
                rollAt(2, 0) = 1
                count(2) = 1
                """);
        Script.run("6: no two rolls that are on ask one sector", """
                person()
                guests(2, 1)
                guests(3, 1)
                roll(2) = 0
                roll(2) ! IllegalStateException
                roll(-1) ! IllegalStateException
                roll(3) = 1
                2 x round(0)
                roll(-1) ! IllegalStateException
                2 x round(1)
                roll(-1) = 2
                roll(-1) ! IllegalStateException
                roll(2) ! IllegalStateException
                # sector 7 is asked by the roll of all, though nobody is there
                roll(7) ! IllegalStateException
                count(2) = 1
                """);
        Script.run("6: a roll in its second round is on", """
                guests(2, 1)
                roll(2) = 0
                round(0)
                roll(2) ! IllegalStateException
                round(0)
                roll(2) = 1
                """);
        Script.run("6: none begins while a mayday is open", """
                person()
                enter(0, 0)
                mayday(0, 0) = 0
                roll(0) ! IllegalStateException
                roll(5) ! IllegalStateException
                roll(-1) ! IllegalStateException
                roll(10) ! IllegalArgumentException
                answered(0)
                roll(0) = 0
                """);
        Script.run("6: no such sector", """
                roll(-2) ! IllegalArgumentException
                roll(10) ! IllegalArgumentException
                roll(2147483647) ! IllegalArgumentException
                roll(-2147483648) ! IllegalArgumentException
                roll(9) = 0
                roll(0) = 1
                """);
        Script.run("6: 40 rolls at most, and the state goes before the room", """
                person()
                enter(0, 1)
                38 x roll(0)
                roll(1) = 38
                roll(0) = 39
                roll(0) ! UnsupportedOperationException
                roll(-1) ! IllegalStateException
                roll(1) ! IllegalStateException
                roll(-2) ! IllegalArgumentException
                2 x round(38)
                roll(1) ! UnsupportedOperationException
                mayday(0, 0)
                roll(1) ! IllegalStateException
                rollAt(40, 0) ! IllegalArgumentException
                rollAt(39, 0) = 3
                """);
    }

    private static void answering() {
        Script.run("7: the four answers", """
                3 x person()
                enter(0, 0)
                enter(1, 0)
                roll(0) = 0
                answer(0, 9, 0) = 1
                answer(0, 9, 0) = 2
                answer(0, 0, 0) = 3
                answer(0, 9, 0) = 2
                answer(0, 0, 0) = 3
                answer(0, 5, 0) = 3
                answer(0, 5, 2) = 4
                answer(0, 5, 2) = 4
                rollAt(0, 1) = 2
                rollAt(0, 2) = 1
                rollAt(0, 3) = 1
                rollAt(0, 6) = 2
                count(4) = 3
                """);
        Script.run("7: one who came out can be counted all the same", """
                person()
                enter(0, 0)
                roll(0) = 0
                leave(0)
                rollAt(0, 3) = 0
                answer(0, 3, 0) = 1
                rollAt(0, 2) = 1
                answer(0, 4, 0) = 3
                """);
        Script.run("7: answers go on in the second round, and while a mayday is open", """
                2 x person()
                enter(0, 0)
                enter(1, 0)
                roll(0) = 0
                answer(0, 1, 0) = 1
                round(0) = 1
                mayday(0, 1)
                answer(0, 1, 0) = 2
                answer(0, 1, 1) = 1
                seen(0, 5) = 5
                answered(0)
                round(0) = 0
                answer(0, 1, 0) ! IllegalStateException
                """);
        Script.run("7: two rolls count apart", """
                person()
                enter(0, 0)
                roll(0) = 0
                enter(0, 1)
                roll(1) = 1
                answer(0, 0, 0) = 1
                answer(1, 1, 0) = 1
                rollAt(0, 2) = 1
                rollAt(1, 2) = 1
                count(4) = 0
                """);
        Script.run("7: unknown numbers go before the state", """
                person()
                enter(0, 0)
                answer(0, 0, 0) ! IllegalArgumentException
                roll(0) = 0
                answer(1, 0, 0) ! IllegalArgumentException
                answer(-1, 0, 0) ! IllegalArgumentException
                answer(0, -1, 0) ! IllegalArgumentException
                answer(0, 10, 0) ! IllegalArgumentException
                answer(0, 0, 1) ! IllegalArgumentException
                answer(0, 0, -1) ! IllegalArgumentException
                answer(2147483647, 0, 0) ! IllegalArgumentException
                answer(-2147483648, 0, 0) ! IllegalArgumentException
                answer(0, 2147483647, 0) ! IllegalArgumentException
                answer(0, -2147483648, 0) ! IllegalArgumentException
                answer(0, 0, 2147483647) ! IllegalArgumentException
                answer(0, 0, -2147483648) ! IllegalArgumentException
                rollAt(0, 2) = 0
                rollAt(0, 6) = 0
                2 x round(0)
                answer(0, 0, 0) ! IllegalStateException
                answer(0, 10, 0) ! IllegalArgumentException
                answer(0, 0, 1) ! IllegalArgumentException
                """);
        Script.run("8: guests seen", """
                guests(1, 7)
                roll(1) = 0
                rollAt(0, 5) = 7
                seen(0, 0) = 0
                seen(0, 3) = 3
                rollAt(0, 5) = 4
                round(0) = 0
                seen(0, 4) = 7
                rollAt(0, 5) = 0
                seen(0, 999) = 1006
                rollAt(0, 5) = 0
                rollAt(0, 4) = 7
                seen(0, -1) ! IndexOutOfBoundsException
                seen(0, 1000) ! IndexOutOfBoundsException
                seen(0, 2147483647) ! IndexOutOfBoundsException
                seen(0, -2147483648) ! IndexOutOfBoundsException
                seen(1, 0) ! IllegalArgumentException
                seen(-1, -1) ! IllegalArgumentException
                seen(2147483647, 0) ! IllegalArgumentException
                seen(-2147483648, 0) ! IllegalArgumentException
                seen(0, 0) = 1006
                round(0) = 0
                seen(0, 0) ! IllegalStateException
                seen(0, 1000) ! IndexOutOfBoundsException
                rollAt(0, 5) = 0
                """);
        Script.run("8: 9,999 seen at most", """
                guests(1, 7)
                roll(1) = 0
                10 x seen(0, 999)
                seen(0, 10) ! UnsupportedOperationException
                seen(0, 999) ! UnsupportedOperationException
                seen(0, 0) = 9990
                seen(0, 9) = 9999
                seen(0, 1) ! UnsupportedOperationException
                seen(0, 0) = 9999
                seen(0, 1000) ! IndexOutOfBoundsException
                2 x round(0)
                seen(0, 1) ! IllegalStateException
                """);
    }

    private static void rounds() {
        Script.run("9: rounds tell who is open", """
                4 x person()
                enter(0, 0)
                enter(1, 0)
                enter(2, 0)
                roll(0) = 0
                rollAt(0, 0) = 1
                answer(0, 0, 0) = 1
                round(0) = 2
                rollAt(0, 0) = 2
                leave(1)
                enter(1, 0)
                rollAt(0, 3) = 1
                round(0) = 1
                rollAt(0, 0) = 3
                round(0) ! IllegalStateException
                rollAt(0, 0) = 3
                """);
        Script.run("9: going on is not coming out, nor is coming out before the roll", """
                2 x person()
                enter(0, 0)
                enter(1, 0)
                leave(1)
                enter(1, 0)
                roll(0) = 0
                enter(0, 5)
                round(0) = 2
                round(0) = 2
                missing(0, 0) = 0
                missing(0, 1) = 1
                """);
        Script.run("9: round refuses", """
                person()
                enter(0, 0)
                round(0) ! IllegalArgumentException
                roll(0) = 0
                round(1) ! IllegalArgumentException
                round(-1) ! IllegalArgumentException
                round(2147483647) ! IllegalArgumentException
                round(-2147483648) ! IllegalArgumentException
                mayday(0, 0)
                round(0) ! IllegalStateException
                round(1) ! IllegalArgumentException
                rollAt(0, 0) = 1
                answered(0)
                round(0) = 1
                """);
        Script.run("10: rollAt", """
                3 x person()
                enter(0, 0)
                enter(1, 0)
                enter(2, 1)
                guests(0, 4)
                roll(0) = 0
                answer(0, 0, 0) = 1
                answer(0, 0, 2) = 4
                seen(0, 1) = 1
                rollAt(0, 0) = 1
                rollAt(0, 1) = 2
                rollAt(0, 2) = 1
                rollAt(0, 3) = 1
                rollAt(0, 4) = 4
                rollAt(0, 5) = 3
                rollAt(0, 6) = 1
                rollAt(0, 7) ! IllegalArgumentException
                rollAt(0, -1) ! IllegalArgumentException
                rollAt(1, 0) ! IllegalArgumentException
                rollAt(-1, 0) ! IllegalArgumentException
                rollAt(0, 2147483647) ! IllegalArgumentException
                rollAt(0, -2147483648) ! IllegalArgumentException
                rollAt(2147483647, 0) ! IllegalArgumentException
                rollAt(-2147483648, 0) ! IllegalArgumentException
                2 x round(0)
                rollAt(0, 3) = 1
                # behind the end it stays those missing then, found or not
                leave(1)
                rollAt(0, 3) = 1
                missing(0, 0) = -1
                """);
    }

    private static void missingAndFound() {
        Script.run("11: the missing, by numbers", """
                5 x person()
                enter(4, 0)
                enter(3, 0)
                enter(2, 0)
                enter(1, 0)
                roll(0) = 0
                missing(0, 0) ! IllegalStateException
                answer(0, 0, 3) = 1
                round(0) = 3
                missing(0, 0) ! IllegalStateException
                round(0) = 3
                missing(0, 0) = 1
                missing(0, 1) = 2
                missing(0, 2) = 4
                missing(0, 3) = -1
                missing(0, 2147483647) = -1
                """);
        Script.run("11: missing refuses numbers, then ranges, then the state", """
                person()
                enter(0, 0)
                missing(0, 0) ! IllegalArgumentException
                roll(0) = 0
                missing(1, 0) ! IllegalArgumentException
                missing(-1, -1) ! IllegalArgumentException
                missing(2147483647, 0) ! IllegalArgumentException
                missing(-2147483648, 0) ! IllegalArgumentException
                missing(0, -1) ! IndexOutOfBoundsException
                missing(0, -2147483648) ! IndexOutOfBoundsException
                missing(0, 0) ! IllegalStateException
                2 x round(0)
                missing(0, -1) ! IndexOutOfBoundsException
                missing(0, 0) = 0
                """);
        Script.run("11: found by coming out, in all rolls", """
                2 x person()
                enter(0, 0)
                enter(1, 0)
                roll(0) = 0
                2 x round(0)
                roll(0) = 1
                2 x round(1)
                leave(0)
                missing(0, 0) = 1
                missing(1, 0) = 1
                enter(0, 0)
                missing(0, 0) = 1
                roll(0) = 2
                2 x round(2)
                missing(2, 0) = 0
                missing(2, 1) = 1
                missing(1, 0) = 1
                """);
        Script.run("11: found by being counted in a roll of a greater number", """
                person()
                enter(0, 0)
                roll(0) = 0
                2 x round(0)
                roll(0) = 1
                2 x round(1)
                roll(0) = 2
                missing(0, 0) = 0
                answer(2, 7, 0) = 1
                missing(0, 0) = -1
                missing(1, 0) = -1
                rollAt(0, 3) = 1
                rollAt(0, 2) = 0
                2 x round(2)
                roll(0) = 3
                2 x round(3)
                missing(3, 0) = 0
                missing(2, 0) = -1
                """);
        Script.run("11: found whenever, even by what was counted before the end", """
                person()
                enter(0, 0)
                roll(0) = 0
                enter(0, 1)
                roll(1) = 1
                answer(1, 1, 0) = 1
                round(0) = 1
                round(0) = 1
                rollAt(0, 3) = 1
                missing(0, 0) = -1
                """);
        Script.run("11: a roll of a lower number does not find", """
                person()
                enter(0, 0)
                roll(0) = 0
                enter(0, 1)
                roll(1) = 1
                2 x round(1)
                answer(0, 0, 0) = 1
                missing(1, 0) = 0
                2 x round(0)
                missing(0, 0) = -1
                """);
        Script.run("11: the greatest roll finds, whichever was answered last", """
                person()
                enter(0, 0)
                roll(0) = 0
                2 x round(0)
                roll(0) = 1
                enter(0, 1)
                roll(1) = 2
                enter(0, 2)
                roll(2) = 3
                answer(3, 2, 0) = 1
                answer(1, 0, 0) = 1
                2 x round(2)
                missing(2, 0) = -1
                missing(0, 0) = -1
                """);
        Script.run("11: a stranger is told, not counted, and so not found", """
                person()
                enter(0, 0)
                guests(1, 1)
                roll(0) = 0
                2 x round(0)
                roll(1) = 1
                answer(1, 1, 0) = 4
                missing(0, 0) = 0
                rollAt(1, 2) = 0
                """);
    }

    private static void doubles() {
        Script.run("12: doubles in order, over all rolls", """
                3 x person()
                enter(1, 0)
                enter(2, 1)
                roll(0) = 0
                roll(1) = 1
                answer(1, 9, 2) = 1
                answer(1, 8, 2) = 3
                answer(0, 3, 1) = 1
                answer(0, 4, 1) = 3
                answer(1, 7, 2) = 3
                count(4) = 3
                twice(0, 0) = 2
                twice(0, 1) = 9
                twice(0, 2) = 8
                twice(0, 3) = 1
                twice(1, 0) = 1
                twice(1, 1) = 3
                twice(1, 2) = 4
                twice(1, 3) = 0
                twice(2, 0) = 2
                # the first sector stays the first
                twice(2, 1) = 9
                twice(2, 2) = 7
                twice(2, 3) = 1
                twice(3, 0) ! IllegalArgumentException
                twice(-1, 0) ! IllegalArgumentException
                twice(0, 4) ! IllegalArgumentException
                twice(0, -1) ! IllegalArgumentException
                twice(2147483647, 0) ! IllegalArgumentException
                twice(-2147483648, 0) ! IllegalArgumentException
                twice(0, 2147483647) ! IllegalArgumentException
                twice(0, -2147483648) ! IllegalArgumentException
                """);
        Script.run("7 and 12: 100 doubles at most, in all rolls together", """
                3 x person()
                enter(0, 0)
                enter(1, 1)
                roll(0) = 0
                roll(1) = 1
                answer(0, 0, 0) = 1
                answer(1, 1, 1) = 1
                49 x answer(0, 1, 0); answer(1, 2, 1)
                answer(0, 1, 0) = 3
                answer(0, 2, 0) = 3
                count(4) = 100
                answer(0, 1, 0) ! UnsupportedOperationException
                answer(1, 2, 1) ! UnsupportedOperationException
                count(4) = 100
                answer(0, 0, 0) = 2
                answer(0, 1, 2) = 4
                twice(99, 2) = 2
                twice(100, 0) ! IllegalArgumentException
                2 x round(0)
                answer(0, 1, 0) ! IllegalStateException
                answer(0, 10, 0) ! IllegalArgumentException
                """);
    }
}
