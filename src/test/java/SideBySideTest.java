/** What stands side by side: what a state does not stop, and what a call does not change. */
public final class SideBySideTest {
    /** Every call but roll, round, evacuate and confirm; number 0 of each kind is there. */
    private static final String ALL_GO_ON = """
            person() = 3
            enter(3, 8)
            enter(3, 9)
            was(3, %1$d) = 9
            leave(3)
            guests(9, 5)
            answer(0, 0, 0) = 1
            answer(0, 0, 0) = 2
            answer(0, 1, 0) = 3
            answer(0, 0, 3) = 4
            seen(0, 2) = 2
            rollAt(0, 2) = 1
            missing(1, 0) = -1
            twice(0, 2) = 1
            mayday(1, 1) = 1
            maydayAt(1, 2) = 1
            answered(1)
            count(4) = 1
            """;
    private static final String ALL_AND_TIME_GO_ON = ALL_GO_ON + """
            tick(1) = 0
            count(0) = %2$d
            """;
    /** Roll 0 is on and roll 1 is over, mayday 0 is open, evacuation 0 is on. */
    private static final String EVERYTHING_ON = """
            3 x person()
            enter(0, 0)
            enter(1, 0)
            enter(2, 1)
            roll(0) = 0
            roll(2) = 1
            mayday(0, 0) = 0
            evacuate(5000) = 0
            """;

    public static void main(String[] args) {
        states();
        rollsStay();
        answersChangeNothingElse();
        maydaysStay();
        evacuationsStay();
        guestsStay();
        Script.end();
    }

    private static void states() {
        Script.run("a mayday is open: all but rolls and rounds goes on, evacuations too",
                EVERYTHING_ON + String.format(ALL_AND_TIME_GO_ON, 0, 1) + """
                confirm(0) = 1
                confirm(1) = 0
                evacuate(10) = 1
                late(1, 0) = -1
                roll(3) ! IllegalStateException
                round(0) ! IllegalStateException
                """);
        Script.run("an evacuation is on: all but another one goes on, rolls and rounds too",
                EVERYTHING_ON + "answered(0)\n"
                + String.format(ALL_AND_TIME_GO_ON, 0, 1) + """
                round(0) = 1
                roll(9) = 2
                rollAt(2, 4) = 5
                evacuate(10) ! IllegalStateException
                """);
        Script.run("an evacuation is past its second: all but another one goes on",
                EVERYTHING_ON + "tick(5000) = 0\ntick(1) = 2\n"
                + String.format(ALL_AND_TIME_GO_ON, 5001, 5002) + """
                answered(0)
                round(0) = 1
                roll(9) = 2
                evacuate(10) ! IllegalStateException
                late(0, 1) = 1
                """);
        Script.run("the last second: all but time goes on",
                "19 x tick(5000)\ntick(4999)\n" + EVERYTHING_ON
                + String.format(ALL_GO_ON, 99_999) + """
                tick(1) ! IndexOutOfBoundsException
                answered(0)
                round(0) = 1
                roll(9) = 2
                confirm(0) = 1
                confirm(1) = 0
                evacuate(10) = 1
                """);
        Script.run("the second round: all goes on", EVERYTHING_ON.replace(
                "roll(2) = 1\n", "roll(2) = 1\nround(0) = 2\n")
                + String.format(ALL_AND_TIME_GO_ON, 0, 1) + """
                answered(0)
                round(0) = 1
                """);
        Script.run("a mayday waits, and two rolls are on: all but rolls and rounds goes on", """
                6 x person()
                enter(0, 0)
                enter(1, 0)
                enter(2, 0)
                enter(3, 0)
                enter(4, 0)
                guests(2, 1)
                roll(0) = 0
                roll(2) = 1
                roll(3) = 2
                mayday(0, 0) = 0
                mayday(1, 0) = 1
                mayday(2, 0) = 2
                mayday(3, 0) = 3
                mayday(4, 0) = 4
                person() = 6
                enter(5, 8)
                was(5, 0) = 8
                leave(5)
                guests(9, 5)
                answer(0, 0, 0) = 1
                answer(0, 1, 0) = 3
                seen(1, 2) = 2
                rollAt(1, 5) = 0
                missing(2, 0) = -1
                twice(0, 2) = 1
                maydayAt(4, 1) = -1
                evacuate(10) = 0
                confirm(0) = 2
                tick(11) = 2
                late(0, 0) = 2
                count(2) = 2
                roll(4) ! IllegalStateException
                round(0) ! IllegalStateException
                """);
    }

    private static void rollsStay() {
        Script.run("7: going on, and coming in again, is not being counted", """
                2 x person()
                enter(0, 0)
                enter(1, 0)
                roll(0) = 0
                enter(0, 1)
                enter(0, 0)
                leave(1)
                enter(1, 0)
                rollAt(0, 2) = 0
                rollAt(0, 3) = 1
                answer(0, 0, 0) = 1
                """);
        Script.run("7: time, and other rolls, count nobody and end nothing", """
                2 x person()
                enter(0, 0)
                enter(1, 1)
                roll(0) = 0
                roll(1) = 1
                answer(1, 0, 1) = 1
                2 x round(1)
                tick(5000) = 0
                rollAt(0, 0) = 1
                rollAt(0, 2) = 0
                rollAt(0, 3) = 1
                rollAt(1, 2) = 1
                """);
        Script.run("9: the second round goes on with what was told in the first", """
                3 x person()
                enter(0, 0)
                enter(1, 0)
                guests(0, 9)
                roll(0) = 0
                answer(0, 4, 0) = 1
                answer(0, 4, 2) = 4
                seen(0, 3) = 3
                enter(2, 0)
                guests(0, 20)
                round(0) = 1
                rollAt(0, 1) = 2
                rollAt(0, 2) = 1
                rollAt(0, 4) = 9
                rollAt(0, 5) = 6
                rollAt(0, 6) = 1
                answer(0, 4, 0) = 2
                answer(0, 0, 0) = 3
                answer(0, 0, 2) = 4
                seen(0, 1) = 4
                round(0) = 1
                rollAt(0, 6) = 2
                rollAt(0, 5) = 5
                """);
        Script.run("11: found in the second round of a roll of all, not as it begins", """
                person()
                enter(0, 0)
                roll(0) = 0
                2 x round(0)
                roll(-1) = 1
                missing(0, 0) = 0
                round(1) = 1
                missing(0, 0) = 0
                answer(1, 3, 0) = 1
                missing(0, 0) = -1
                """);
        Script.run("11: a mayday stops no look at those missing, and answering it finds nobody", """
                2 x person()
                enter(0, 0)
                enter(1, 0)
                roll(0) = 0
                2 x round(0)
                mayday(1, 0) = 0
                missing(0, 0) = 0
                missing(0, 1) = 1
                missing(0, 2) = -1
                answered(0)
                missing(0, 1) = 1
                """);
        Script.run("11: an evacuation that all confirmed finds nobody", """
                person()
                enter(0, 0)
                roll(0) = 0
                2 x round(0)
                evacuate(1) = 0
                confirm(0) = 0
                missing(0, 0) = 0
                """);
        Script.run("11: who is missing may come to be missing again, or be counted, elsewhere", """
                2 x person()
                enter(0, 0)
                enter(1, 0)
                roll(0) = 0
                2 x round(0)
                roll(0) = 1
                answer(1, 0, 1) = 1
                2 x round(1)
                missing(0, 0) = 0
                missing(0, 1) = -1
                missing(1, 0) = 0
                missing(1, 1) = -1
                rollAt(0, 3) = 2
                rollAt(1, 3) = 1
                """);
    }

    private static void answersChangeNothingElse() {
        Script.run("7: seen by a sector is not being there", """
                2 x person()
                enter(0, 0)
                guests(5, 1)
                roll(0) = 0
                answer(0, 5, 0) = 1
                answer(0, 5, 0) = 2
                answer(0, 6, 0) = 3
                answer(0, 6, 1) = 4
                was(0, 0) = 0
                was(1, 0) = -1
                count(1) = 1
                count(5) = 1
                leave(1) ! IllegalStateException
                enter(0, 0) ! IllegalStateException
                roll(5) = 1
                rollAt(1, 1) = 0
                """);
        Script.run("7: answers 2 and 3 find nobody in a roll of a greater number", """
                person()
                enter(0, 0)
                roll(0) = 0
                answer(0, 0, 0) = 1
                enter(0, 1)
                roll(1) = 1
                2 x round(1)
                missing(1, 0) = 0
                answer(0, 0, 0) = 2
                missing(1, 0) = 0
                answer(0, 5, 0) = 3
                missing(1, 0) = 0
                """);
        Script.run("7: each answer counts in its own number alone", """
                2 x person()
                enter(0, 0)
                guests(0, 3)
                roll(0) = 0
                answer(0, 1, 1) = 4
                rollAt(0, 1) = 1
                rollAt(0, 2) = 0
                rollAt(0, 5) = 3
                rollAt(0, 6) = 1
                count(4) = 0
                answer(0, 1, 0) = 1
                rollAt(0, 2) = 1
                rollAt(0, 6) = 1
                count(4) = 0
                answer(0, 1, 0) = 2
                rollAt(0, 2) = 1
                rollAt(0, 6) = 1
                count(4) = 0
                answer(0, 2, 0) = 3
                rollAt(0, 2) = 1
                rollAt(0, 6) = 1
                rollAt(0, 5) = 3
                count(4) = 1
                """);
        Script.run("12: doubles stay when their roll is over, and when their person comes out", """
                person()
                enter(0, 3)
                roll(3) = 0
                answer(0, 4, 0) = 1
                answer(0, 5, 0) = 3
                2 x round(0)
                leave(0)
                tick(1)
                twice(0, 0) = 0
                twice(0, 1) = 4
                twice(0, 2) = 5
                twice(0, 3) = 0
                count(4) = 1
                """);
    }

    private static void maydaysStay() {
        Script.run("13: a mayday does not move its person, nor does answering it", """
                person()
                enter(0, 6)
                mayday(0, 3) = 0
                was(0, 0) = 6
                answered(0)
                was(0, 0) = 6
                count(1) = 1
                count(5) = 1
                """);
        Script.run("13: time, going on, and an evacuation answer no mayday", """
                2 x person()
                enter(0, 6)
                enter(1, 6)
                mayday(0, 3) = 0
                mayday(1, 4) = 1
                tick(5000) = 0
                enter(0, 7)
                evacuate(1) = 0
                confirm(6) = 1
                confirm(7) = 0
                maydayAt(0, 0) = 1
                maydayAt(0, 1) = 0
                maydayAt(0, 3) = 3
                maydayAt(0, 4) = 0
                maydayAt(1, 1) = 1
                count(3) = 2
                """);
        Script.run("13: a mayday leaves rolls as they are", """
                2 x person()
                enter(0, 0)
                enter(1, 0)
                guests(0, 2)
                roll(0) = 0
                answer(0, 0, 1) = 1
                seen(0, 1) = 1
                mayday(0, 0) = 0
                count(2) = 1
                rollAt(0, 0) = 1
                rollAt(0, 1) = 2
                rollAt(0, 2) = 1
                rollAt(0, 3) = 1
                rollAt(0, 5) = 1
                answered(0)
                rollAt(0, 0) = 1
                rollAt(0, 3) = 1
                """);
    }

    private static void evacuationsStay() {
        Script.run("17: coming out, and guests gone, confirm nothing", """
                person()
                enter(0, 2)
                guests(3, 1)
                evacuate(10) = 0
                leave(0)
                guests(3, 0)
                evacuate(10) ! IllegalStateException
                tick(11) = 2
                late(0, 0) = 2
                late(0, 1) = 3
                confirm(3) = 1
                confirm(2) = 0
                """);
        Script.run("17: confirming moves nobody, and takes no guest away", """
                person()
                enter(0, 2)
                guests(2, 4)
                evacuate(10) = 0
                confirm(2) = 0
                was(0, 0) = 2
                count(1) = 1
                roll(2) = 0
                rollAt(0, 1) = 1
                rollAt(0, 4) = 4
                """);
        Script.run("17: being counted confirms nothing, and confirming counts nobody", """
                person()
                enter(0, 2)
                guests(2, 4)
                roll(2) = 0
                evacuate(10) = 0
                answer(0, 2, 0) = 1
                seen(0, 4) = 4
                2 x round(0)
                confirm(2) = 0
                roll(2) = 1
                evacuate(10) = 1
                confirm(2) = 0
                rollAt(1, 2) = 0
                rollAt(1, 5) = 4
                """);
    }

    private static void guestsStay() {
        Script.run("5: a roll keeps the guests that it asked, and those missing", """
                guests(4, 10)
                roll(4) = 0
                seen(0, 4) = 4
                guests(4, 2)
                rollAt(0, 4) = 10
                rollAt(0, 5) = 6
                guests(4, 500)
                rollAt(0, 4) = 10
                rollAt(0, 5) = 6
                2 x round(0)
                guests(4, 0)
                rollAt(0, 4) = 10
                rollAt(0, 5) = 6
                """);
        Script.run("8: guests who are seen, or missing, are there all the same", """
                guests(4, 10)
                roll(4) = 0
                seen(0, 3) = 3
                2 x round(0)
                roll(4) = 1
                rollAt(1, 4) = 10
                rollAt(1, 5) = 10
                rollAt(0, 5) = 7
                seen(1, 999) = 999
                rollAt(0, 5) = 7
                2 x round(1)
                roll(-1) = 2
                rollAt(2, 4) = 10
                """);
        Script.run("5: a sector's guests are its own", """
                guests(4, 10)
                guests(5, 20)
                guests(4, 1)
                roll(5) = 0
                rollAt(0, 4) = 20
                roll(4) = 1
                rollAt(1, 4) = 1
                """);
    }
}
