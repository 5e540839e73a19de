/** Promises 16 to 19: evacuations, who confirms, who is late, and time. */
public final class EvacuationsTest {
    public static void main(String[] args) {
        evacuating();
        confirming();
        beingLate();
        ticking();
        Script.end();
    }

    private static void evacuating() {
        Script.run("16: evacuate refuses ranges, then the state", """
                person()
                evacuate(1) ! IllegalStateException
                evacuate(0) ! IndexOutOfBoundsException
                enter(0, 0)
                evacuate(0) ! IndexOutOfBoundsException
                evacuate(-1) ! IndexOutOfBoundsException
                evacuate(10001) ! IndexOutOfBoundsException
                evacuate(2147483647) ! IndexOutOfBoundsException
                evacuate(-2147483648) ! IndexOutOfBoundsException
                confirm(0) ! IllegalStateException
                evacuate(10000) = 0
                evacuate(10001) ! IndexOutOfBoundsException
                evacuate(1) ! IllegalStateException
                leave(0)
                # it is on though nobody is inside any more
                evacuate(1) ! IllegalStateException
                confirm(0) = 0
                evacuate(1) ! IllegalStateException
                enter(0, 1)
                evacuate(1) = 1
                """);
        Script.run("16: guests alone must confirm too", """
                guests(9, 1)
                evacuate(1) = 0
                confirm(9) = 0
                guests(9, 0)
                evacuate(1) ! IllegalStateException
                """);
        Script.run("16: 20 evacuations at most, and the state goes before the room", """
                guests(0, 1)
                19 x evacuate(5); confirm(0)
                evacuate(5) = 19
                evacuate(5) ! IllegalStateException
                confirm(0) = 0
                evacuate(5) ! UnsupportedOperationException
                evacuate(0) ! IndexOutOfBoundsException
                guests(0, 0)
                evacuate(5) ! IllegalStateException
                confirm(0) ! IllegalStateException
                late(19, 0) = -1
                late(20, 0) ! IllegalArgumentException
                """);
    }

    private static void confirming() {
        Script.run("17: confirm", """
                3 x person()
                enter(0, 0)
                enter(1, 0)
                enter(2, 5)
                guests(9, 3)
                guests(5, 3)
                confirm(0) ! IllegalStateException
                evacuate(10) = 0
                confirm(9) = 2
                confirm(9) ! IllegalStateException
                confirm(4) ! IllegalStateException
                confirm(0) = 1
                confirm(5) = 0
                confirm(5) ! IllegalStateException
                confirm(10) ! IllegalArgumentException
                confirm(-1) ! IllegalArgumentException
                confirm(2147483647) ! IllegalArgumentException
                confirm(-2147483648) ! IllegalArgumentException
                """);
        Script.run("17: who must is settled as it begins", """
                2 x person()
                enter(0, 3)
                evacuate(10) = 0
                enter(1, 4)
                guests(5, 1)
                leave(0)
                confirm(4) ! IllegalStateException
                confirm(5) ! IllegalStateException
                confirm(3) = 0
                evacuate(10) = 1
                confirm(3) ! IllegalStateException
                confirm(4) = 1
                confirm(5) = 0
                """);
        Script.run("17: ten sectors", """
                guests(0, 1)
                guests(1, 1)
                guests(2, 1)
                guests(3, 1)
                guests(4, 1)
                guests(5, 1)
                guests(6, 1)
                guests(7, 1)
                guests(8, 1)
                guests(9, 1)
                evacuate(1) = 0
                confirm(0) = 9
                confirm(9) = 8
                tick(2) = 8
                late(0, 0) = 1
                late(0, 7) = 8
                late(0, 8) = -1
                """);
    }

    private static void beingLate() {
        Script.run("18 and 19: the last second itself is in time", """
                guests(2, 1)
                guests(7, 1)
                guests(4, 1)
                tick(3) = 0
                evacuate(10) = 0
                tick(10) = 0
                late(0, 0) = -1
                confirm(4) = 2
                tick(1) = 2
                late(0, 0) = 2
                late(0, 1) = 7
                late(0, 2) = -1
                late(0, 2147483647) = -1
                # they stay late, and come to be so once only
                confirm(7) = 1
                late(0, 1) = 7
                tick(5000) = 0
                late(0, 0) = 2
                late(0, 1) = 7
                confirm(2) = 0
                late(0, 1) = 7
                """);
        Script.run("18: late refuses numbers, then ranges", """
                late(0, 0) ! IllegalArgumentException
                guests(2, 1)
                evacuate(1) = 0
                late(0, 0) = -1
                late(1, 0) ! IllegalArgumentException
                late(-1, -1) ! IllegalArgumentException
                late(2147483647, 0) ! IllegalArgumentException
                late(-2147483648, 0) ! IllegalArgumentException
                late(0, -1) ! IndexOutOfBoundsException
                late(0, -2147483648) ! IndexOutOfBoundsException
                late(1, -1) ! IllegalArgumentException
                """);
        Script.run("18: an evacuation that is over has none late, and others keep theirs", """
                guests(2, 1)
                evacuate(5) = 0
                tick(6) = 1
                confirm(2) = 0
                guests(3, 1)
                evacuate(5) = 1
                confirm(3) = 1
                confirm(2) = 0
                tick(6) = 0
                late(1, 0) = -1
                late(0, 0) = 2
                late(0, 1) = -1
                evacuate(5) = 2
                tick(7) = 2
                late(2, 0) = 2
                late(2, 1) = 3
                late(1, 0) = -1
                """);
    }

    private static void ticking() {
        Script.run("19: tick", """
                tick(1) = 0
                count(0) = 1
                tick(5000) = 0
                count(0) = 5001
                tick(0) ! IndexOutOfBoundsException
                tick(-1) ! IndexOutOfBoundsException
                tick(5001) ! IndexOutOfBoundsException
                tick(2147483647) ! IndexOutOfBoundsException
                tick(-2147483648) ! IndexOutOfBoundsException
                count(0) = 5001
                """);
        Script.run("19: up to second 99,999", """
                19 x tick(5000)
                tick(4999)
                count(0) = 99999
                tick(1) ! IndexOutOfBoundsException
                tick(5000) ! IndexOutOfBoundsException
                count(0) = 99999
                """);
        Script.run("19: not a second beyond", """
                19 x tick(5000)
                tick(4990)
                tick(10) ! IndexOutOfBoundsException
                tick(9) = 0
                count(0) = 99999
                """);
        Script.run("16 and 19: an evacuation may end behind the last second", """
                19 x tick(5000)
                guests(0, 1)
                evacuate(10000) = 0
                tick(4999) = 0
                late(0, 0) = -1
                confirm(0) = 0
                """);
    }
}
