import java.util.ArrayList;
import java.util.Arrays;

/**
 * Roll calls of those inside: persons by sectors and guests by number, asked in two rounds,
 * answers by sectors, counted twice, missing and found again; maydays with teams that stop other
 * asks, evacuations that sectors confirm, where everybody was at any second.
 *
 * <p>Every public method looks for its refusals in the document's order (unknown numbers, ranges,
 * state, room) before it changes anything, so a refused call leaves no trace.
 */
public final class RollCalls {
    private static final int LAST_SECOND = 99_999;
    private static final int LONGEST_TICK = 5_000;
    private static final int LONGEST_EVACUATION = 10_000;
    private static final int SECTORS = 10;
    private static final int TEAMS = 4;
    private static final int MOST_GUESTS = 999;
    private static final int MOST_GUESTS_SEEN = 9_999;
    private static final int LAST_PLACE = 999;

    private static final int MOST_PERSONS = 60;
    private static final int MOST_MOVES = 300;
    private static final int MOST_ROLLS = 40;
    private static final int MOST_DOUBLES = 100;
    private static final int MOST_MAYDAYS = 30;
    private static final int MOST_EVACUATIONS = 20;

    private static final int OUTSIDE = -1;
    private static final int ALL_SECTORS = -1;
    private static final int NO_TEAM = -1;
    private static final int NO_MORE = -1;

    private static final int NOT_ASKED = -2;
    private static final int NOT_COUNTED = -1;

    private static final int FIRST_ROUND = 1;
    private static final int OVER = 3;

    private static final int COUNTED_NOW = 1;
    private static final int COUNTED_BEFORE = 2;
    private static final int COUNTED_ELSEWHERE = 3;
    private static final int STRANGER = 4;

    private final int[] guestsIn;
    private final ArrayList<Person> persons;
    private final ArrayList<Move> moves;
    private final ArrayList<Roll> rolls;
    private final ArrayList<DoubleCount> doubles;
    private final ArrayList<Mayday> maydays;
    private final ArrayList<Evacuation> evacuations;
    private int second;

    public RollCalls() {
        guestsIn = new int[SECTORS];
        persons = new ArrayList<>();
        moves = new ArrayList<>();
        rolls = new ArrayList<>();
        doubles = new ArrayList<>();
        maydays = new ArrayList<>();
        evacuations = new ArrayList<>();
        second = 0;
    }

    // Persons, their moves, and guests

    public int person() throws UnsupportedOperationException {
        if (persons.size() >= MOST_PERSONS) {
            throw new UnsupportedOperationException("no room for a person");
        }
        persons.add(new Person());
        return persons.size() - 1;
    }

    public void enter(int person, int sector)
            throws IllegalArgumentException, IllegalStateException, UnsupportedOperationException {
        Person mover = knownPerson(person);
        checkSector(sector);
        if (mover.sector == sector) {
            throw new IllegalStateException("the person is in that sector");
        }
        addMove(person, sector);
        mover.sector = sector;
    }

    public void leave(int person)
            throws IllegalArgumentException, IllegalStateException, UnsupportedOperationException {
        Person mover = knownPerson(person);
        if (mover.sector == OUTSIDE) {
            throw new IllegalStateException("the person is outside");
        }
        addMove(person, OUTSIDE);
        mover.sector = OUTSIDE;
        mover.rollsBegunAtLeaving = rolls.size();
    }

    public void guests(int sector, int n)
            throws IllegalArgumentException, IndexOutOfBoundsException {
        checkSector(sector);
        if (n < 0 || n > MOST_GUESTS) {
            throw new IndexOutOfBoundsException("guests are 0 to 999");
        }
        guestsIn[sector] = n;
    }

    public int was(int person, int t) throws IllegalArgumentException, IndexOutOfBoundsException {
        knownPerson(person);
        if (t < 0 || t > second) {
            throw new IndexOutOfBoundsException("a second to come, or below 0");
        }
        for (int i = moves.size() - 1; i >= 0; i--) {
            Move move = moves.get(i);
            if (move.person == person && move.second <= t) {
                return move.sector;
            }
        }
        return OUTSIDE;
    }

    private Person knownPerson(int person) {
        if (person < 0 || person >= persons.size()) {
            throw new IllegalArgumentException("no such person");
        }
        return persons.get(person);
    }

    private static void checkSector(int sector) {
        if (sector < 0 || sector >= SECTORS) {
            throw new IllegalArgumentException("no such sector");
        }
    }

    private void addMove(int person, int sector) {
        if (moves.size() >= MOST_MOVES) {
            throw new UnsupportedOperationException("no room for a move");
        }
        moves.add(new Move(person, sector, second));
    }

    private int personsInside() {
        int inside = 0;
        for (int p = 0; p < persons.size(); p++) {
            if (persons.get(p).sector != OUTSIDE) {
                inside++;
            }
        }
        return inside;
    }

    // Rolls and their answers

    public int roll(int sector)
            throws IllegalArgumentException, IllegalStateException, UnsupportedOperationException {
        if (sector != ALL_SECTORS) {
            checkSector(sector);
        }
        if (isAskedNow(sector) || openMaydays() > 0) {
            throw new IllegalStateException("a roll is on there, or a mayday is open");
        }
        if (rolls.size() >= MOST_ROLLS) {
            throw new UnsupportedOperationException("no room for a roll");
        }
        Roll begun = new Roll(rolls.size(), sector, persons.size());
        askThoseInside(begun);
        begun.endIfNobodyIsAsked();
        rolls.add(begun);
        return begun.number;
    }

    public int answer(int roll, int sector, int person)
            throws IllegalArgumentException, IllegalStateException, UnsupportedOperationException {
        Roll asking = knownRoll(roll);
        checkSector(sector);
        Person found = knownPerson(person);
        checkIsOn(asking);
        int counter = asking.counterOf(person);
        if (counter == NOT_ASKED) {
            asking.strangers++;
            return STRANGER;
        }
        if (counter == NOT_COUNTED) {
            asking.countPerson(person, sector);
            found.greatestRollCounted = Math.max(found.greatestRollCounted, roll);
            return COUNTED_NOW;
        }
        if (counter == sector) {
            return COUNTED_BEFORE;
        }
        addDouble(new DoubleCount(person, counter, sector, roll));
        return COUNTED_ELSEWHERE;
    }

    public int seen(int roll, int n)
            throws IllegalArgumentException, IndexOutOfBoundsException, IllegalStateException,
                    UnsupportedOperationException {
        Roll asking = knownRoll(roll);
        if (n < 0 || n > MOST_GUESTS) {
            throw new IndexOutOfBoundsException("guests seen at a time are 0 to 999");
        }
        checkIsOn(asking);
        if (asking.guestsSeen + n > MOST_GUESTS_SEEN) {
            throw new UnsupportedOperationException("no room for so many guests seen");
        }
        asking.guestsSeen += n;
        return asking.guestsSeen;
    }

    public int round(int roll) throws IllegalArgumentException, IllegalStateException {
        Roll asking = knownRoll(roll);
        checkIsOn(asking);
        if (openMaydays() > 0) {
            throw new IllegalStateException("a mayday is open");
        }
        int open = openPersons(asking);
        asking.round++;
        if (asking.isOver()) {
            asking.missingAtEnd = open;
        }
        return open;
    }

    public int rollAt(int roll, int what) throws IllegalArgumentException {
        Roll told = knownRoll(roll);
        switch (what) {
            case 0:
                return told.round;
            case 1:
                return told.personsAsked;
            case 2:
                return told.personsCounted;
            case 3:
                return told.isOver() ? told.missingAtEnd : openPersons(told);
            case 4:
                return told.guestsAsked;
            case 5:
                return Math.max(0, told.guestsAsked - told.guestsSeen);
            case 6:
                return told.strangers;
            default:
                throw new IllegalArgumentException("no such what");
        }
    }

    public int missing(int roll, int i)
            throws IllegalArgumentException, IndexOutOfBoundsException, IllegalStateException {
        Roll ended = knownRoll(roll);
        if (i < 0) {
            throw new IndexOutOfBoundsException("i is below 0");
        }
        if (!ended.isOver()) {
            throw new IllegalStateException("the roll is not over");
        }
        int before = 0;
        for (int p = 0; p < persons.size(); p++) {
            if (isMissingStill(ended, p)) {
                if (before == i) {
                    return p;
                }
                before++;
            }
        }
        return NO_MORE;
    }

    public int twice(int i, int what) throws IllegalArgumentException {
        if (i < 0 || i >= doubles.size()) {
            throw new IllegalArgumentException("no such double");
        }
        DoubleCount told = doubles.get(i);
        switch (what) {
            case 0:
                return told.person;
            case 1:
                return told.firstSector;
            case 2:
                return told.otherSector;
            case 3:
                return told.roll;
            default:
                throw new IllegalArgumentException("no such what");
        }
    }

    private Roll knownRoll(int roll) {
        if (roll < 0 || roll >= rolls.size()) {
            throw new IllegalArgumentException("no such roll");
        }
        return rolls.get(roll);
    }

    private static void checkIsOn(Roll asking) {
        if (asking.isOver()) {
            throw new IllegalStateException("the roll is over");
        }
    }

    private boolean isAskedNow(int sector) {
        for (int r = 0; r < rolls.size(); r++) {
            Roll other = rolls.get(r);
            if (!other.isOver() && (sector == ALL_SECTORS || other.asksSector(sector))) {
                return true;
            }
        }
        return false;
    }

    private void askThoseInside(Roll begun) {
        for (int p = 0; p < persons.size(); p++) {
            int sector = persons.get(p).sector;
            if (sector != OUTSIDE && begun.asksSector(sector)) {
                begun.askPerson(p);
            }
        }
        for (int s = 0; s < SECTORS; s++) {
            if (begun.asksSector(s)) {
                begun.guestsAsked += guestsIn[s];
            }
        }
    }

    private void addDouble(DoubleCount told) {
        if (doubles.size() >= MOST_DOUBLES) {
            throw new UnsupportedOperationException("no room for a double");
        }
        doubles.add(told);
    }

    private int openPersons(Roll asking) {
        int open = 0;
        for (int p = 0; p < persons.size(); p++) {
            if (isOpen(asking, p)) {
                open++;
            }
        }
        return open;
    }

    private boolean isOpen(Roll asking, int person) {
        return asking.counterOf(person) == NOT_COUNTED
                && !knownPerson(person).cameOutSince(asking.number);
    }

    /**
     * Nobody is counted in a roll behind its end, so those who are open in it now are just those
     * who were missing then and did not come out since.
     */
    private boolean isMissingStill(Roll ended, int person) {
        return isOpen(ended, person)
                && knownPerson(person).greatestRollCounted <= ended.number;
    }

    private int rollsOn() {
        int on = 0;
        for (int r = 0; r < rolls.size(); r++) {
            if (!rolls.get(r).isOver()) {
                on++;
            }
        }
        return on;
    }

    // Maydays and teams

    public int mayday(int person, int place)
            throws IllegalArgumentException, IndexOutOfBoundsException, IllegalStateException,
                    UnsupportedOperationException {
        Person caller = knownPerson(person);
        if (place < 0 || place > LAST_PLACE) {
            throw new IndexOutOfBoundsException("places are 0 to 999");
        }
        if (caller.sector == OUTSIDE || hasOpenMayday(person)) {
            throw new IllegalStateException("the person is outside, or has an open mayday");
        }
        if (maydays.size() >= MOST_MAYDAYS) {
            throw new UnsupportedOperationException("no room for a mayday");
        }
        maydays.add(new Mayday(person, place, second, lowestFreeTeam()));
        return maydays.size() - 1;
    }

    public void answered(int mayday) throws IllegalArgumentException, IllegalStateException {
        Mayday ended = knownMayday(mayday);
        if (!ended.open) {
            throw new IllegalStateException("the mayday was answered");
        }
        int freed = ended.team;
        ended.open = false;
        ended.team = NO_TEAM;
        if (freed != NO_TEAM) {
            sendToLowestWaiting(freed);
        }
    }

    public int maydayAt(int mayday, int what) throws IllegalArgumentException {
        Mayday told = knownMayday(mayday);
        switch (what) {
            case 0:
                return told.open ? 1 : 0;
            case 1:
                return told.team;
            case 2:
                return told.person;
            case 3:
                return told.place;
            case 4:
                return told.second;
            default:
                throw new IllegalArgumentException("no such what");
        }
    }

    private Mayday knownMayday(int mayday) {
        if (mayday < 0 || mayday >= maydays.size()) {
            throw new IllegalArgumentException("no such mayday");
        }
        return maydays.get(mayday);
    }

    private boolean hasOpenMayday(int person) {
        for (int m = 0; m < maydays.size(); m++) {
            Mayday other = maydays.get(m);
            if (other.open && other.person == person) {
                return true;
            }
        }
        return false;
    }

    private int openMaydays() {
        int open = 0;
        for (int m = 0; m < maydays.size(); m++) {
            if (maydays.get(m).open) {
                open++;
            }
        }
        return open;
    }

    private int lowestFreeTeam() {
        for (int team = 0; team < TEAMS; team++) {
            if (!isSent(team)) {
                return team;
            }
        }
        return NO_TEAM;
    }

    private boolean isSent(int team) {
        for (int m = 0; m < maydays.size(); m++) {
            if (maydays.get(m).team == team) {
                return true;
            }
        }
        return false;
    }

    private void sendToLowestWaiting(int team) {
        for (int m = 0; m < maydays.size(); m++) {
            Mayday waiting = maydays.get(m);
            if (waiting.open && waiting.team == NO_TEAM) {
                waiting.team = team;
                return;
            }
        }
    }

    // Evacuations and time

    public int evacuate(int seconds)
            throws IndexOutOfBoundsException, IllegalStateException, UnsupportedOperationException {
        if (seconds < 1 || seconds > LONGEST_EVACUATION) {
            throw new IndexOutOfBoundsException("an evacuation has 1 to 10,000 seconds");
        }
        if (isEvacuating()) {
            throw new IllegalStateException("an evacuation is on");
        }
        Evacuation begun = new Evacuation(second + seconds);
        demandConfirmations(begun);
        if (begun.left == 0) {
            throw new IllegalStateException("nobody would have to confirm");
        }
        if (evacuations.size() >= MOST_EVACUATIONS) {
            throw new UnsupportedOperationException("no room for an evacuation");
        }
        evacuations.add(begun);
        return evacuations.size() - 1;
    }

    public int confirm(int sector) throws IllegalArgumentException, IllegalStateException {
        checkSector(sector);
        if (!isEvacuating()) {
            throw new IllegalStateException("no evacuation is on");
        }
        Evacuation current = knownEvacuation(evacuations.size() - 1);
        if (!current.mustConfirm[sector]) {
            throw new IllegalStateException("the sector need not confirm, or did");
        }
        current.mustConfirm[sector] = false;
        current.left--;
        return current.left;
    }

    public int late(int evacuation, int i)
            throws IllegalArgumentException, IndexOutOfBoundsException {
        Evacuation told = knownEvacuation(evacuation);
        if (i < 0) {
            throw new IndexOutOfBoundsException("i is below 0");
        }
        int before = 0;
        for (int s = 0; s < SECTORS; s++) {
            if (told.isLate[s]) {
                if (before == i) {
                    return s;
                }
                before++;
            }
        }
        return NO_MORE;
    }

    public int tick(int seconds) throws IndexOutOfBoundsException {
        if (seconds < 1 || seconds > LONGEST_TICK || seconds > LAST_SECOND - second) {
            throw new IndexOutOfBoundsException("1 to 5,000 seconds, up to second 99,999");
        }
        second += seconds;
        if (!isEvacuating()) {
            return 0;
        }
        return knownEvacuation(evacuations.size() - 1).tellLate(second);
    }

    /** Only the last evacuation can be on, since none begins before the one before is over. */
    private boolean isEvacuating() {
        return !evacuations.isEmpty() && knownEvacuation(evacuations.size() - 1).left > 0;
    }

    private Evacuation knownEvacuation(int evacuation) {
        if (evacuation < 0 || evacuation >= evacuations.size()) {
            throw new IllegalArgumentException("no such evacuation");
        }
        return evacuations.get(evacuation);
    }

    private void demandConfirmations(Evacuation begun) {
        for (int s = 0; s < SECTORS; s++) {
            if (guestsIn[s] > 0 || isSomebodyIn(s)) {
                begun.mustConfirm[s] = true;
                begun.left++;
            }
        }
    }

    private boolean isSomebodyIn(int sector) {
        for (int p = 0; p < persons.size(); p++) {
            if (persons.get(p).sector == sector) {
                return true;
            }
        }
        return false;
    }

    // Numbers of all

    public int count(int what) throws IllegalArgumentException {
        switch (what) {
            case 0:
                return second;
            case 1:
                return personsInside();
            case 2:
                return rollsOn();
            case 3:
                return openMaydays();
            case 4:
                return doubles.size();
            case 5:
                return moves.size();
            default:
                throw new IllegalArgumentException("no such what");
        }
    }

    private static final class Person {
        int sector;
        /** Coming out ends being open, and missing, in just those rolls that had begun by then. */
        int rollsBegunAtLeaving;
        /** Being counted finds a person in all rolls of lower numbers: the greatest is enough. */
        int greatestRollCounted;

        Person() {
            sector = OUTSIDE;
            rollsBegunAtLeaving = 0;
            greatestRollCounted = -1;
        }

        boolean cameOutSince(int roll) {
            return roll < rollsBegunAtLeaving;
        }
    }

    private static final class Move {
        final int person;
        final int sector;
        final int second;

        Move(int person, int sector, int second) {
            this.person = person;
            this.sector = sector;
            this.second = second;
        }
    }

    private static final class Roll {
        final int number;
        final int sector;
        /** By persons known as the roll began: the first sector that told of them, or a NOT_. */
        final int[] counters;
        int round;
        int personsAsked;
        int personsCounted;
        int guestsAsked;
        int guestsSeen;
        int strangers;
        int missingAtEnd;

        Roll(int number, int sector, int personsKnown) {
            this.number = number;
            this.sector = sector;
            counters = new int[Math.max(0, personsKnown)];
            Arrays.fill(counters, NOT_ASKED);
            round = FIRST_ROUND;
        }

        boolean asksSector(int other) {
            return sector == ALL_SECTORS || sector == other;
        }

        void askPerson(int person) {
            if (person >= 0 && person < counters.length) {
                counters[person] = NOT_COUNTED;
                personsAsked++;
            }
        }

        void endIfNobodyIsAsked() {
            if (personsAsked == 0 && guestsAsked == 0) {
                round = OVER;
            }
        }

        boolean isOver() {
            return round >= OVER;
        }

        int counterOf(int person) {
            return person >= 0 && person < counters.length ? counters[person] : NOT_ASKED;
        }

        void countPerson(int person, int bySector) {
            if (person >= 0 && person < counters.length) {
                counters[person] = bySector;
                personsCounted++;
            }
        }
    }

    private static final class DoubleCount {
        final int person;
        final int firstSector;
        final int otherSector;
        final int roll;

        DoubleCount(int person, int firstSector, int otherSector, int roll) {
            this.person = person;
            this.firstSector = firstSector;
            this.otherSector = otherSector;
            this.roll = roll;
        }
    }

    private static final class Mayday {
        final int person;
        final int place;
        final int second;
        boolean open;
        int team;

        Mayday(int person, int place, int second, int team) {
            this.person = person;
            this.place = place;
            this.second = second;
            this.team = team;
            open = true;
        }
    }

    private static final class Evacuation {
        final int lastSecond;
        final boolean[] mustConfirm;
        final boolean[] isLate;
        int left;
        boolean lateTold;

        Evacuation(int lastSecond) {
            this.lastSecond = lastSecond;
            mustConfirm = new boolean[SECTORS];
            isLate = new boolean[SECTORS];
        }

        /** Answers how many sectors came to be late; they do so once only. */
        int tellLate(int now) {
            if (lateTold || now <= lastSecond) {
                return 0;
            }
            lateTold = true;
            for (int s = 0; s < SECTORS; s++) {
                isLate[s] = mustConfirm[s];
            }
            return left;
        }
    }
}
