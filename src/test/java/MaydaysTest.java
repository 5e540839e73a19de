/** Promises 13 to 15: maydays and their teams. */
public final class MaydaysTest {
    public static void main(String[] args) {
        Script.run("13 and 15: a mayday tells its person, place, second and team", """
                2 x person()
                enter(1, 3)
                tick(12)
                mayday(1, 999) = 0
                tick(1)
                maydayAt(0, 0) = 1
                maydayAt(0, 1) = 0
                maydayAt(0, 2) = 1
                maydayAt(0, 3) = 999
                maydayAt(0, 4) = 12
                maydayAt(0, 5) ! IllegalArgumentException
                maydayAt(0, -1) ! IllegalArgumentException
                maydayAt(1, 0) ! IllegalArgumentException
                maydayAt(-1, 0) ! IllegalArgumentException
                maydayAt(0, 2147483647) ! IllegalArgumentException
                maydayAt(0, -2147483648) ! IllegalArgumentException
                maydayAt(2147483647, 0) ! IllegalArgumentException
                maydayAt(-2147483648, 0) ! IllegalArgumentException
                answered(0)
                maydayAt(0, 0) = 0
                maydayAt(0, 1) = -1
                maydayAt(0, 2) = 1
                maydayAt(0, 3) = 999
                maydayAt(0, 4) = 12
                """);
        Script.run("13: mayday refuses numbers, then ranges, then the state", """
                2 x person()
                enter(0, 0)
                mayday(2, 0) ! IllegalArgumentException
                mayday(-1, -1) ! IllegalArgumentException
                mayday(2147483647, 0) ! IllegalArgumentException
                mayday(-2147483648, 0) ! IllegalArgumentException
                mayday(0, -1) ! IndexOutOfBoundsException
                mayday(0, 1000) ! IndexOutOfBoundsException
                mayday(0, 2147483647) ! IndexOutOfBoundsException
                mayday(0, -2147483648) ! IndexOutOfBoundsException
                mayday(1, 1000) ! IndexOutOfBoundsException
                mayday(1, 0) ! IllegalStateException
                count(3) = 0
                mayday(0, 0) = 0
                mayday(0, 0) ! IllegalStateException
                mayday(0, -1) ! IndexOutOfBoundsException
                count(3) = 1
                """);
        Script.run("13: a mayday stays open when its person comes out", """
                person()
                enter(0, 0)
                mayday(0, 0) = 0
                leave(0)
                maydayAt(0, 0) = 1
                maydayAt(0, 1) = 0
                enter(0, 0)
                mayday(0, 0) ! IllegalStateException
                answered(0)
                mayday(0, 0) = 1
                leave(0)
                answered(1)
                mayday(0, 0) ! IllegalStateException
                """);
        Script.run("13: 30 maydays at most, and the state goes before the room", """
                2 x person()
                enter(0, 0)
                """ + maydaysOneByOne(30) + """
                mayday(0, 0) ! UnsupportedOperationException
                mayday(1, 0) ! IllegalStateException
                mayday(0, 1000) ! IndexOutOfBoundsException
                mayday(2, 0) ! IllegalArgumentException
                answered(30) ! IllegalArgumentException
                count(3) = 0
                """);
        Script.run("14: answered", """
                person()
                enter(0, 0)
                answered(0) ! IllegalArgumentException
                mayday(0, 0) = 0
                answered(1) ! IllegalArgumentException
                answered(-1) ! IllegalArgumentException
                answered(2147483647) ! IllegalArgumentException
                answered(-2147483648) ! IllegalArgumentException
                count(3) = 1
                answered(0)
                count(3) = 0
                answered(0) ! IllegalStateException
                """);
        teams();
        Script.end();
    }

    private static void teams() {
        Script.run("13: the lowest team that is free", """
                4 x person()
                enter(0, 0)
                enter(1, 0)
                enter(2, 0)
                mayday(2, 0) = 0
                mayday(1, 0) = 1
                mayday(0, 0) = 2
                maydayAt(0, 1) = 0
                maydayAt(1, 1) = 1
                maydayAt(2, 1) = 2
                answered(1)
                answered(0)
                # a team that is with an open mayday stays there
                maydayAt(2, 1) = 2
                mayday(1, 0) = 3
                maydayAt(3, 1) = 0
                mayday(2, 0) = 4
                maydayAt(4, 1) = 1
                enter(3, 0)
                mayday(3, 0) = 5
                maydayAt(5, 1) = 3
                """);
        Script.run("14: teams that come free go to those that wait, by numbers", """
                7 x person()
                enter(0, 0)
                enter(1, 0)
                enter(2, 0)
                enter(3, 0)
                enter(4, 0)
                enter(5, 0)
                enter(6, 0)
                mayday(0, 0) = 0
                mayday(1, 0) = 1
                mayday(2, 0) = 2
                mayday(3, 0) = 3
                mayday(6, 0) = 4
                mayday(5, 0) = 5
                mayday(4, 0) = 6
                maydayAt(3, 1) = 3
                maydayAt(4, 1) = -1
                maydayAt(4, 0) = 1
                maydayAt(5, 1) = -1
                # one that waits is answered: no team comes free
                answered(4)
                maydayAt(4, 0) = 0
                maydayAt(4, 1) = -1
                maydayAt(5, 1) = -1
                answered(2)
                maydayAt(2, 1) = -1
                maydayAt(5, 1) = 2
                maydayAt(6, 1) = -1
                answered(5)
                maydayAt(6, 1) = 2
                answered(0)
                answered(6)
                mayday(0, 0) = 7
                maydayAt(7, 1) = 0
                mayday(2, 0) = 8
                maydayAt(8, 1) = 2
                count(3) = 4
                """);
    }

    private static String maydaysOneByOne(int maydays) {
        StringBuilder rows = new StringBuilder();
        for (int m = 0; m < maydays; m++) {
            rows.append("mayday(0, 1) = ").append(m).append("\nanswered(").append(m).append(")\n");
        }
        return rows.toString();
    }
}
