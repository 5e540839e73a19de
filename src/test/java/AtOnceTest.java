/** What is so at once, or just in a second, and what the document says of the edges between. */
public final class AtOnceTest {
    public static void main(String[] args) {
        rollsOverAtOnce();
        asked();
        openAndFound();
        maydays();
        evacuations();
        seconds();
        Script.end();
    }

    private static void rollsOverAtOnce() {
        Script.run("6: one that asks nobody, and no guests, is over at once, and bars no sector", """
                roll(3) = 0
                rollAt(0, 0) = 3
                roll(3) = 1
                roll(-1) = 2
                roll(-1) = 3
                rollAt(3, 0) = 3
                count(2) = 0
                """);
        Script.run("6: one person alone keeps it on", """
                person()
                enter(0, 3)
                roll(3) = 0
                rollAt(0, 0) = 1
                rollAt(0, 4) = 0
                count(2) = 1
                """);
        Script.run("6: one guest alone keeps it on", """
                guests(3, 1)
                roll(3) = 0
                rollAt(0, 0) = 1
                rollAt(0, 1) = 0
                count(2) = 1
                """);
        Script.run("6: one person, or one guest, keeps a roll of all on", """
                person()
                enter(0, 9)
                roll(-1) = 0
                rollAt(0, 0) = 1
                2 x round(0)
                leave(0)
                guests(9, 1)
                roll(-1) = 1
                rollAt(1, 0) = 1
                2 x round(1)
                guests(9, 0)
                roll(-1) = 2
                rollAt(2, 0) = 3
                """);
        Script.run("6: those in another sector, or gone again, are not asked", """
                person()
                enter(0, 3)
                guests(3, 1)
                roll(4) = 0
                rollAt(0, 0) = 3
                leave(0)
                guests(3, 0)
                roll(3) = 1
                rollAt(1, 0) = 3
                """);
        Script.run("9: all counted, and all guests seen: it is on until its rounds are over", """
                person()
                enter(0, 0)
                guests(0, 1)
                roll(0) = 0
                answer(0, 0, 0) = 1
                seen(0, 1) = 1
                rollAt(0, 0) = 1
                count(2) = 1
                round(0) = 0
                rollAt(0, 0) = 2
                count(2) = 1
                roll(0) ! IllegalStateException
                round(0) = 0
                rollAt(0, 0) = 3
                count(2) = 0
                roll(0) = 1
                """);
        Script.run("9: all came out: it is on all the same", """
                person()
                enter(0, 0)
                roll(0) = 0
                leave(0)
                rollAt(0, 0) = 1
                rollAt(0, 3) = 0
                roll(0) ! IllegalStateException
                round(0) = 0
                round(0) = 0
                missing(0, 0) = -1
                """);
    }

    private static void asked() {
        Script.run("6: a roll of sector 0 and one of all are told apart from sector 9", """
                guests(0, 1)
                guests(9, 1)
                roll(0) = 0
                rollAt(0, 4) = 1
                roll(9) = 1
                roll(8) = 2
                roll(-1) ! IllegalStateException
                2 x round(0)
                roll(-1) ! IllegalStateException
                2 x round(1)
                roll(-1) = 3
                rollAt(3, 4) = 2
                roll(0) ! IllegalStateException
                roll(9) ! IllegalStateException
                round(3) = 0
                roll(9) ! IllegalStateException
                round(3) = 0
                roll(9) = 4
                """);
        Script.run("6 and 7: as it begins: who comes in later is a stranger, who goes on is not", """
                3 x person()
                enter(0, 0)
                roll(0) = 0
                enter(1, 0)
                enter(0, 1)
                person() = 3
                enter(3, 0)
                guests(0, 9)
                rollAt(0, 1) = 1
                rollAt(0, 4) = 0
                answer(0, 0, 1) = 4
                answer(0, 0, 3) = 4
                answer(0, 0, 2) = 4
                answer(0, 1, 0) = 1
                rollAt(0, 6) = 3
                """);
        Script.run("7: counted by sector 0 is counted: the same sector again, and another one", """
                person()
                enter(0, 5)
                roll(5) = 0
                answer(0, 0, 0) = 1
                rollAt(0, 2) = 1
                answer(0, 0, 0) = 2
                answer(0, 9, 0) = 3
                answer(0, 0, 0) = 2
                answer(0, 9, 0) = 3
                twice(0, 1) = 0
                twice(1, 1) = 0
                twice(1, 2) = 9
                rollAt(0, 2) = 1
                """);
    }

    private static void openAndFound() {
        Script.run("9: came out since it began: just before it, just behind it, and back again", """
                3 x person()
                enter(0, 0)
                enter(1, 0)
                enter(2, 0)
                leave(0)
                enter(0, 0)
                roll(0) = 0
                rollAt(0, 3) = 3
                leave(1)
                rollAt(0, 3) = 2
                enter(1, 0)
                rollAt(0, 3) = 2
                round(0) = 2
                leave(2)
                round(0) = 1
                missing(0, 0) = 0
                missing(0, 1) = -1
                rollAt(0, 3) = 1
                """);
        Script.run("9: who is counted and comes out is not taken off twice", """
                2 x person()
                enter(0, 0)
                enter(1, 0)
                roll(0) = 0
                answer(0, 0, 0) = 1
                leave(0)
                rollAt(0, 3) = 1
                leave(1)
                answer(0, 0, 1) = 1
                rollAt(0, 3) = 0
                round(0) = 0
                round(0) = 0
                rollAt(0, 2) = 2
                """);
        Script.run("11: coming out finds at once, and being back does not lose again", """
                person()
                enter(0, 0)
                roll(0) = 0
                2 x round(0)
                missing(0, 0) = 0
                enter(0, 1)
                missing(0, 0) = 0
                leave(0)
                missing(0, 0) = -1
                enter(0, 0)
                missing(0, 0) = -1
                rollAt(0, 3) = 1
                """);
        Script.run("11: a roll of the next number finds, one of the same or a lower does not", """
                2 x person()
                enter(0, 0)
                enter(1, 0)
                roll(0) = 0
                answer(0, 0, 1) = 1
                enter(0, 1)
                roll(1) = 1
                2 x round(1)
                missing(1, 0) = 0
                answer(0, 0, 0) = 1
                missing(1, 0) = 0
                2 x round(0)
                roll(1) = 2
                missing(1, 0) = 0
                answer(2, 1, 0) = 1
                missing(1, 0) = -1
                """);
        Script.run("11: missing in the roll itself is not found by asking alone", """
                person()
                enter(0, 0)
                roll(0) = 0
                2 x round(0)
                roll(0) = 1
                missing(0, 0) = 0
                2 x round(1)
                missing(0, 0) = 0
                missing(1, 0) = 0
                rollAt(0, 3) = 1
                rollAt(1, 3) = 1
                """);
    }

    private static void maydays() {
        Script.run("6 and 9: the first open one stops rolls and rounds, the last answered frees", """
                2 x person()
                enter(0, 0)
                enter(1, 1)
                roll(0) = 0
                mayday(0, 0) = 0
                mayday(1, 0) = 1
                roll(1) ! IllegalStateException
                round(0) ! IllegalStateException
                answered(0)
                roll(1) ! IllegalStateException
                round(0) ! IllegalStateException
                rollAt(0, 0) = 1
                answered(1)
                round(0) = 1
                roll(1) = 1
                mayday(1, 0) = 2
                round(0) ! IllegalStateException
                rollAt(0, 0) = 2
                answered(2)
                round(0) = 1
                """);
        Script.run("13: a person may tell again as soon as it is answered", """
                person()
                enter(0, 0)
                mayday(0, 5) = 0
                mayday(0, 6) ! IllegalStateException
                answered(0)
                mayday(0, 6) = 1
                maydayAt(0, 3) = 5
                maydayAt(1, 3) = 6
                maydayAt(1, 1) = 0
                answered(0) ! IllegalStateException
                maydayAt(1, 0) = 1
                """);
        Script.run("13: a mayday that waits is open: it stops rolls too", """
                5 x person()
                enter(0, 0)
                enter(1, 0)
                enter(2, 0)
                enter(3, 0)
                enter(4, 0)
                mayday(0, 0) = 0
                mayday(1, 0) = 1
                mayday(2, 0) = 2
                mayday(3, 0) = 3
                mayday(4, 0) = 4
                mayday(4, 0) ! IllegalStateException
                count(3) = 5
                answered(4)
                answered(3)
                answered(2)
                answered(1)
                roll(0) ! IllegalStateException
                answered(0)
                roll(0) = 0
                """);
    }

    private static void evacuations() {
        Script.run("16: one person, or one guest, must confirm; none need not", """
                person()
                enter(0, 0)
                guests(9, 1)
                evacuate(5) = 0
                confirm(1) ! IllegalStateException
                confirm(8) ! IllegalStateException
                confirm(0) = 1
                confirm(9) = 0
                """);
        Script.run("16: a person and a guest in one sector confirm once", """
                2 x person()
                enter(0, 4)
                enter(1, 4)
                guests(4, 2)
                evacuate(5) = 0
                confirm(4) = 0
                confirm(4) ! IllegalStateException
                """);
        Script.run("16 and 17: it is over when all did, and the next may begin in that second", """
                guests(4, 1)
                guests(5, 1)
                evacuate(5) = 0
                confirm(4) = 1
                evacuate(5) ! IllegalStateException
                confirm(5) = 0
                evacuate(5) = 1
                confirm(5) = 1
                confirm(4) = 0
                """);
        Script.run("16: one that is past its second is on until all did", """
                guests(4, 1)
                evacuate(1) = 0
                tick(5000) = 1
                evacuate(1) ! IllegalStateException
                confirm(4) = 0
                confirm(4) ! IllegalStateException
                evacuate(1) = 1
                """);
        Script.run("17: the last one's sectors are not the next one's", """
                person()
                enter(0, 4)
                evacuate(1) = 0
                enter(0, 5)
                confirm(5) ! IllegalStateException
                confirm(4) = 0
                evacuate(1) = 1
                confirm(4) ! IllegalStateException
                confirm(5) = 0
                """);
    }

    private static void seconds() {
        Script.run("18: the second itself is in time, the next one is not", """
                guests(1, 1)
                guests(2, 1)
                guests(3, 1)
                tick(100)
                evacuate(10) = 0
                tick(9) = 0
                confirm(1) = 2
                tick(1) = 0
                late(0, 0) = -1
                confirm(2) = 1
                tick(1) = 1
                late(0, 0) = 3
                late(0, 1) = -1
                confirm(3) = 0
                late(0, 0) = 3
                late(0, 1) = -1
                tick(1) = 0
                late(0, 0) = 3
                """);
        Script.run("19: told once, by the tick that passes the second", """
                guests(1, 1)
                guests(2, 1)
                evacuate(10) = 0
                tick(5000) = 2
                tick(1) = 0
                tick(5000) = 0
                confirm(1) = 1
                tick(1) = 0
                late(0, 0) = 1
                late(0, 1) = 2
                late(0, 2) = -1
                """);
        Script.run("18 and 19: each evacuation has its own second", """
                guests(1, 1)
                evacuate(10) = 0
                confirm(1) = 0
                tick(5)
                evacuate(10) = 1
                tick(6) = 0
                tick(4) = 0
                late(1, 0) = -1
                tick(1) = 1
                late(1, 0) = 1
                late(0, 0) = -1
                """);
        Script.run("18: a sector that need not confirm is never late", """
                guests(1, 1)
                evacuate(1) = 0
                guests(2, 1)
                guests(1, 0)
                tick(2) = 1
                late(0, 0) = 1
                late(0, 1) = -1
                """);
        Script.run("20: behind all moves of a second: the last of them, and the second next to it",
                """
                person()
                tick(1)
                enter(0, 1)
                enter(0, 2)
                leave(0)
                enter(0, 3)
                was(0, 0) = -1
                was(0, 1) = 3
                tick(1)
                was(0, 2) = 3
                leave(0)
                was(0, 1) = 3
                was(0, 2) = -1
                """);
        Script.run("19: only tick moves the second", """
                2 x person()
                enter(0, 0)
                guests(1, 5)
                roll(-1) = 0
                answer(0, 0, 0) = 1
                seen(0, 5) = 5
                2 x round(0)
                mayday(0, 0) = 0
                answered(0)
                evacuate(100) = 0
                confirm(0) = 1
                leave(0)
                count(0) = 0
                tick(3) = 0
                count(0) = 3
                """);
    }
}
