import java.util.ArrayList;
import java.util.Collections;
import java.util.HashMap;
import java.util.List;
import java.util.Map;
import java.util.TreeMap;
import java.util.TreeSet;

/**
 * The document's words in another form than the class: sets that every event brings up to date,
 * and a place for each person at each second. Answers outcomes as the class Outcome tells them.
 */
final class Model {
    private static final String UNKNOWN = "IllegalArgumentException";
    private static final String RANGE = "IndexOutOfBoundsException";
    private static final String STATE = "IllegalStateException";
    private static final String ROOM = "UnsupportedOperationException";

    private static final class Roll {
        final TreeSet<Integer> sectors = new TreeSet<>();
        final TreeSet<Integer> asked = new TreeSet<>();
        final TreeSet<Integer> open = new TreeSet<>();
        final Map<Integer, Integer> counted = new HashMap<>();
        TreeSet<Integer> lost = null;
        int round = 1;
        int guests = 0;
        int seen = 0;
        int strangers = 0;
        int missingThen = 0;
    }

    private static final class Mayday {
        int person;
        int place;
        int told;
        boolean open = true;
    }

    private static final class Evacuation {
        final TreeSet<Integer> left = new TreeSet<>();
        List<Integer> late = null;
        int until;
    }

    private int now = 0;
    private int moves = 0;
    private int persons = 0;
    private final Map<Integer, Integer> inside = new TreeMap<>();
    private final List<TreeMap<Integer, Integer>> placesBySecond = new ArrayList<>();
    private final int[] guests = new int[10];
    private final List<Roll> rolls = new ArrayList<>();
    private final List<int[]> doubles = new ArrayList<>();
    private final List<Mayday> maydays = new ArrayList<>();
    private final Map<Integer, Integer> maydayOfTeam = new TreeMap<>();
    private final TreeSet<Integer> waiting = new TreeSet<>();
    private final List<Evacuation> evacuations = new ArrayList<>();

    String ofWritten(String call) {
        return outcome(Outcome.writtenName(call), Outcome.writtenArguments(call));
    }

    String outcome(String name, int... a) {
        switch (name) {
            case "person": return person();
            case "enter": return enter(a[0], a[1]);
            case "leave": return leave(a[0]);
            case "guests": return guests(a[0], a[1]);
            case "roll": return roll(a[0]);
            case "answer": return answer(a[0], a[1], a[2]);
            case "seen": return seen(a[0], a[1]);
            case "round": return round(a[0]);
            case "rollAt": return rollAt(a[0], a[1]);
            case "missing": return missing(a[0], a[1]);
            case "twice": return twice(a[0], a[1]);
            case "mayday": return mayday(a[0], a[1]);
            case "answered": return answered(a[0]);
            case "maydayAt": return maydayAt(a[0], a[1]);
            case "evacuate": return evacuate(a[0]);
            case "confirm": return confirm(a[0]);
            case "late": return late(a[0], a[1]);
            case "tick": return tick(a[0]);
            case "was": return was(a[0], a[1]);
            case "count": return count(a[0]);
            default: throw new AssertionError(name);
        }
    }

    private static String told(int answer) {
        return Integer.toString(answer);
    }

    private static boolean within(int value, int lowest, int highest) {
        return lowest <= value && value <= highest;
    }

    private static boolean isIndex(int value, List<?> list) {
        return within(value, 0, list.size() - 1);
    }

    private boolean isPerson(int person) {
        return within(person, 0, persons - 1);
    }

    private String person() {
        if (persons == 60) {
            return ROOM;
        }
        placesBySecond.add(new TreeMap<>());
        return told(persons++);
    }

    private String enter(int person, int sector) {
        if (!isPerson(person) || !within(sector, 0, 9)) {
            return UNKNOWN;
        }
        if (inside.getOrDefault(person, -1) == sector) {
            return STATE;
        }
        if (moves == 300) {
            return ROOM;
        }
        moves++;
        inside.put(person, sector);
        placesBySecond.get(person).put(now, sector);
        return Outcome.NOTHING;
    }

    private String leave(int person) {
        if (!isPerson(person)) {
            return UNKNOWN;
        }
        if (!inside.containsKey(person)) {
            return STATE;
        }
        if (moves == 300) {
            return ROOM;
        }
        moves++;
        inside.remove(person);
        placesBySecond.get(person).put(now, -1);
        for (Roll roll : rolls) {
            roll.open.remove(person);
            if (roll.lost != null) {
                roll.lost.remove(person);
            }
        }
        return Outcome.NOTHING;
    }

    private String guests(int sector, int n) {
        if (!within(sector, 0, 9)) {
            return UNKNOWN;
        }
        if (!within(n, 0, 999)) {
            return RANGE;
        }
        guests[sector] = n;
        return Outcome.NOTHING;
    }

    private String roll(int sector) {
        if (!within(sector, -1, 9)) {
            return UNKNOWN;
        }
        Roll begun = new Roll();
        for (int s = 0; s <= 9; s++) {
            if (sector == -1 || sector == s) {
                begun.sectors.add(s);
            }
        }
        for (Roll other : rolls) {
            if (other.round < 3 && !Collections.disjoint(other.sectors, begun.sectors)) {
                return STATE;
            }
        }
        if (openMaydays() > 0) {
            return STATE;
        }
        if (rolls.size() == 40) {
            return ROOM;
        }
        for (Map.Entry<Integer, Integer> one : inside.entrySet()) {
            if (begun.sectors.contains(one.getValue())) {
                begun.asked.add(one.getKey());
            }
        }
        begun.open.addAll(begun.asked);
        for (int s : begun.sectors) {
            begun.guests += guests[s];
        }
        rolls.add(begun);
        if (begun.asked.isEmpty() && begun.guests == 0) {
            end(begun);
        }
        return told(rolls.size() - 1);
    }

    private void end(Roll roll) {
        roll.round = 3;
        roll.missingThen = roll.open.size();
        roll.lost = new TreeSet<>(roll.open);
        for (Roll greater : rolls.subList(rolls.indexOf(roll) + 1, rolls.size())) {
            roll.lost.removeAll(greater.counted.keySet());
        }
    }

    private String answer(int number, int sector, int person) {
        if (!isIndex(number, rolls) || !within(sector, 0, 9) || !isPerson(person)) {
            return UNKNOWN;
        }
        Roll roll = rolls.get(number);
        if (roll.round == 3) {
            return STATE;
        }
        if (!roll.asked.contains(person)) {
            roll.strangers++;
            return told(4);
        }
        if (!roll.counted.containsKey(person)) {
            roll.counted.put(person, sector);
            roll.open.remove(person);
            for (Roll lower : rolls.subList(0, number)) {
                if (lower.lost != null) {
                    lower.lost.remove(person);
                }
            }
            return told(1);
        }
        int first = roll.counted.get(person);
        if (first == sector) {
            return told(2);
        }
        if (doubles.size() == 100) {
            return ROOM;
        }
        doubles.add(new int[] {person, first, sector, number});
        return told(3);
    }

    private String seen(int number, int n) {
        if (!isIndex(number, rolls)) {
            return UNKNOWN;
        }
        if (!within(n, 0, 999)) {
            return RANGE;
        }
        Roll roll = rolls.get(number);
        if (roll.round == 3) {
            return STATE;
        }
        if (roll.seen + n > 9999) {
            return ROOM;
        }
        roll.seen += n;
        return told(roll.seen);
    }

    private String round(int number) {
        if (!isIndex(number, rolls)) {
            return UNKNOWN;
        }
        Roll roll = rolls.get(number);
        if (roll.round == 3 || openMaydays() > 0) {
            return STATE;
        }
        if (roll.round == 2) {
            end(roll);
        } else {
            roll.round = 2;
        }
        return told(roll.open.size());
    }

    private String rollAt(int number, int what) {
        if (!isIndex(number, rolls) || !within(what, 0, 6)) {
            return UNKNOWN;
        }
        Roll roll = rolls.get(number);
        int[] all = {roll.round, roll.asked.size(), roll.counted.size(),
            roll.round == 3 ? roll.missingThen : roll.open.size(), roll.guests,
            roll.seen > roll.guests ? 0 : roll.guests - roll.seen, roll.strangers};
        return told(all[what]);
    }

    private String missing(int number, int i) {
        if (!isIndex(number, rolls)) {
            return UNKNOWN;
        }
        if (i < 0) {
            return RANGE;
        }
        Roll roll = rolls.get(number);
        return roll.round < 3 ? STATE : ith(new ArrayList<>(roll.lost), i);
    }

    private static String ith(List<Integer> list, int i) {
        return told(i < list.size() ? list.get(i) : -1);
    }

    private String twice(int i, int what) {
        if (!isIndex(i, doubles) || !within(what, 0, 3)) {
            return UNKNOWN;
        }
        return told(doubles.get(i)[what]);
    }

    private String mayday(int person, int place) {
        if (!isPerson(person)) {
            return UNKNOWN;
        }
        if (!within(place, 0, 999)) {
            return RANGE;
        }
        boolean has = maydays.stream().anyMatch(other -> other.open && other.person == person);
        if (!inside.containsKey(person) || has) {
            return STATE;
        }
        if (maydays.size() == 30) {
            return ROOM;
        }
        Mayday begun = new Mayday();
        begun.person = person;
        begun.place = place;
        begun.told = now;
        waiting.add(maydays.size());
        maydays.add(begun);
        sendTeams();
        return told(maydays.size() - 1);
    }

    private void sendTeams() {
        for (int team = 0; team <= 3; team++) {
            if (!maydayOfTeam.containsKey(team) && !waiting.isEmpty()) {
                maydayOfTeam.put(team, waiting.pollFirst());
            }
        }
    }

    private int openMaydays() {
        return (int) maydays.stream().filter(one -> one.open).count();
    }

    private String answered(int number) {
        if (!isIndex(number, maydays)) {
            return UNKNOWN;
        }
        Mayday ended = maydays.get(number);
        if (!ended.open) {
            return STATE;
        }
        ended.open = false;
        waiting.remove(number);
        maydayOfTeam.values().removeIf(one -> one == number);
        sendTeams();
        return Outcome.NOTHING;
    }

    private String maydayAt(int number, int what) {
        if (!isIndex(number, maydays) || !within(what, 0, 4)) {
            return UNKNOWN;
        }
        Mayday one = maydays.get(number);
        int team = -1;
        for (Map.Entry<Integer, Integer> sent : maydayOfTeam.entrySet()) {
            team = sent.getValue() == number ? sent.getKey() : team;
        }
        return told(new int[] {one.open ? 1 : 0, team, one.person, one.place, one.told}[what]);
    }

    private Evacuation current() {
        for (Evacuation one : evacuations) {
            if (!one.left.isEmpty()) {
                return one;
            }
        }
        return null;
    }

    private String evacuate(int seconds) {
        if (!within(seconds, 1, 10000)) {
            return RANGE;
        }
        Evacuation begun = new Evacuation();
        begun.until = now + seconds;
        begun.left.addAll(inside.values());
        for (int s = 0; s <= 9; s++) {
            if (guests[s] != 0) {
                begun.left.add(s);
            }
        }
        if (current() != null || begun.left.isEmpty()) {
            return STATE;
        }
        if (evacuations.size() == 20) {
            return ROOM;
        }
        evacuations.add(begun);
        return told(evacuations.size() - 1);
    }

    private String confirm(int sector) {
        if (!within(sector, 0, 9)) {
            return UNKNOWN;
        }
        Evacuation on = current();
        if (on == null || !on.left.remove(sector)) {
            return STATE;
        }
        return told(on.left.size());
    }

    private String late(int number, int i) {
        if (!isIndex(number, evacuations)) {
            return UNKNOWN;
        }
        if (i < 0) {
            return RANGE;
        }
        List<Integer> late = evacuations.get(number).late;
        return late == null ? told(-1) : ith(late, i);
    }

    private String tick(int seconds) {
        if (!within(seconds, 1, 5000) || now + seconds > 99999) {
            return RANGE;
        }
        int came = 0;
        for (int k = 0; k < seconds; k++) {
            now++;
            Evacuation on = current();
            if (on != null && now == on.until + 1) {
                on.late = new ArrayList<>(on.left);
                came += on.late.size();
            }
        }
        return told(came);
    }

    private String was(int person, int t) {
        if (!isPerson(person)) {
            return UNKNOWN;
        }
        if (!within(t, 0, now)) {
            return RANGE;
        }
        Map.Entry<Integer, Integer> last = placesBySecond.get(person).floorEntry(t);
        return told(last == null ? -1 : last.getValue());
    }

    private String count(int what) {
        if (!within(what, 0, 5)) {
            return UNKNOWN;
        }
        int on = (int) rolls.stream().filter(roll -> roll.round < 3).count();
        return told(new int[] {now, inside.size(), on, openMaydays(), doubles.size(), moves}[what]);
    }
}
