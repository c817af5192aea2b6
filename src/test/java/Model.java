import java.util.ArrayList;
import java.util.Arrays;
import java.util.Collections;
import java.util.Comparator;
import java.util.HashSet;
import java.util.LinkedHashMap;
import java.util.List;
import java.util.Map;
import java.util.Set;
import java.util.TreeMap;
import java.util.regex.Matcher;
import java.util.regex.Pattern;

/**
 * The document once more, as plainly as it goes and in other ways than the class: every seating
 * is tried, rules are read by a pattern, nothing is kept that can be worked out.
 */
final class Model {
    private static final int NONE = -1, BAD = -2, STATE = -3, FULL = -4;
    private static final String TEST = "(?:not )?(?:men|women|old|young|weight|crew)[<=>][0-9]{1,4}";
    private static final Pattern RULE = Pattern.compile(TEST + "(?: (?:or|and) " + TEST + "){0,7}");

    private static final class Boat {
        int rows;
        int drummer;
        int beat = 4;
        final List<Integer> members = new ArrayList<>();
        List<Integer> seating = null;
    }

    private static final class Start {
        int crew;
        int time;
        int gone;
        boolean struck;
    }

    private static final class Event {
        int minute;
        int round;
        boolean begun;
        Map<Integer, Start> lanes = new TreeMap<>();
    }

    private final List<int[]> paddlers = new ArrayList<>();
    private final Set<Set<Integer>> likes = new HashSet<>();
    private final List<Boat> boats = new ArrayList<>();
    private final List<String> rules = new ArrayList<>();
    private final List<Event> events = new ArrayList<>();
    private final int[] currents = new int[4];
    private Map<Integer, Integer> waiting = new TreeMap<>();
    private List<Integer> finalists = new ArrayList<>();
    private String tape = "";
    private int rest = 10;

    private static boolean in(int n, int low, int high) {
        return low <= n && n <= high;
    }

    private boolean noCrew(int crew) {
        return crew < 0 || crew >= boats.size();
    }

    private boolean noRace(int race) {
        return race < 0 || race >= events.size();
    }

    private boolean noPaddler(int p) {
        return p < 0 || p >= paddlers.size();
    }

    private Start startOf(int race, int lane) {
        return noRace(race) ? null : events.get(race).lanes.get(lane);
    }

    int paddler(int weight, int strength, int arm, int sex, int age) {
        if (!(in(weight, 30, 150) && in(strength, 1, 99) && in(arm, 0, 2) && in(sex, 0, 1)
                && in(age, 10, 90))) {
            return BAD;
        }
        if (paddlers.size() == 40) {
            return FULL;
        }
        paddlers.add(new int[] {weight, strength, arm, sex, age});
        return paddlers.size() - 1;
    }

    int like(int a, int b, int is) {
        if (noPaddler(a) || noPaddler(b)) {
            return NONE;
        }
        if (!in(is, 0, 1) || a == b) {
            return BAD;
        }
        Set<Integer> pair = Set.of(a, b);
        boolean was = is == 1 ? !likes.add(pair) : likes.remove(pair);
        return was ? 1 : 0;
    }

    int crew(int rows, int drummer) {
        if (!in(rows, 2, 4) || !in(drummer, 0, 150)) {
            return BAD;
        }
        if (boats.size() == 6) {
            return FULL;
        }
        Boat b = new Boat();
        b.rows = rows;
        b.drummer = drummer;
        boats.add(b);
        return boats.size() - 1;
    }

    int join(int crew, int paddler) {
        if (noCrew(crew) || noPaddler(paddler)) {
            return NONE;
        }
        Boat b = boats.get(crew);
        if (b.members.contains(paddler)) {
            return STATE;
        }
        if (b.members.size() == 8) {
            return FULL;
        }
        b.members.add(paddler);
        b.seating = null;
        return b.members.size();
    }

    int beat(int crew, int n) {
        if (noCrew(crew)) {
            return NONE;
        }
        if (!in(n, 1, 9)) {
            return BAD;
        }
        int was = boats.get(crew).beat;
        boats.get(crew).beat = n;
        return was;
    }

    /** Lean, pitch, middle, friends, tilt. */
    private int[] parts(Boat b, List<Integer> seating) {
        int lean = 0;
        int pitch = -b.rows * b.drummer;
        int middle = 0;
        int friends = 0;
        for (int seat = 0; seat < seating.size(); seat++) {
            int row = seat / 2;
            int[] p = paddlers.get(seating.get(seat));
            lean += seat % 2 == 0 ? p[0] : -p[0];
            pitch += p[0] * (2 * row - (b.rows - 1));
            middle += p[1] * Math.min(row, b.rows - 1 - row);
            if (seat % 2 == 1 && likes.contains(Set.of(seating.get(seat), seating.get(seat - 1)))) {
                friends++;
            }
        }
        lean = Math.abs(lean);
        pitch = Math.abs(pitch);
        return new int[] {lean, pitch, middle, friends, 4 * lean + pitch - middle - 20 * friends};
    }

    private boolean armsFit(List<Integer> seating) {
        for (int seat = 0; seat < seating.size(); seat++) {
            int arm = paddlers.get(seating.get(seat))[2];
            if (seat % 2 == 0 && arm == 1 || seat % 2 == 1 && arm == 0) {
                return false;
            }
        }
        return true;
    }

    private void tryAll(Boat b, List<Integer> begun, int[] least) {
        if (begun.size() == 2 * b.rows) {
            int tilt = parts(b, begun)[4];
            if (b.seating == null || tilt < least[0]) {
                least[0] = tilt;
                b.seating = new ArrayList<>(begun);
            }
            return;
        }
        for (int p : b.members) {
            if (!begun.contains(p)) {
                begun.add(p);
                if (armsFit(begun)) {
                    tryAll(b, begun, least);
                }
                begun.remove(begun.size() - 1);
            }
        }
    }

    int seat(int crew) {
        if (noCrew(crew)) {
            return -100000;
        }
        Boat b = boats.get(crew);
        b.seating = null;
        int[] least = new int[1];
        tryAll(b, new ArrayList<>(), least);
        return b.seating == null ? -100001 : least[0];
    }

    int sits(int crew, int row, int side) {
        if (noCrew(crew) || boats.get(crew).seating == null || !in(side, 0, 1)
                || !in(row, 0, boats.get(crew).rows - 1)) {
            return NONE;
        }
        return boats.get(crew).seating.get(2 * row + side);
    }

    int trim(int crew, int what) {
        if (noCrew(crew) || !in(what, 0, 3)) {
            return NONE;
        }
        Boat b = boats.get(crew);
        return b.seating == null ? STATE : parts(b, b.seating)[what];
    }

    int change(int crew, int seat, int other) {
        if (noCrew(crew) || !in(seat, 0, 2 * boats.get(crew).rows - 1)
                || !in(other, 0, 2 * boats.get(crew).rows - 1)) {
            return -100000;
        }
        Boat b = boats.get(crew);
        if (b.seating == null) {
            return -100001;
        }
        List<Integer> changed = new ArrayList<>(b.seating);
        Collections.swap(changed, seat, other);
        return armsFit(changed) ? parts(b, changed)[4] : -100001;
    }

    int feed(long w, int n) {
        if (!in(n, 1, 8)) {
            return BAD;
        }
        if (tape.length() + n > 120) {
            return FULL;
        }
        for (int shift = 8 * n - 8; shift >= 0; shift -= 8) {
            tape += (char) (w >> shift & 255);
        }
        return tape.length();
    }

    int rule() {
        if (rules.size() == 6) {
            return FULL;
        }
        String text = tape;
        tape = "";
        if (RULE.matcher(text).matches()) {
            rules.add(text);
            return rules.size() - 1;
        }
        for (int end = 1; end <= text.length(); end++) {
            Matcher m = RULE.matcher(text.substring(0, end));
            if (!m.matches() && !m.hitEnd()) {
                return -10 - (end - 1);
            }
        }
        return -10 - text.length();
    }

    int keeps(int crew, int rule) {
        if (noCrew(crew) || !in(rule, 0, rules.size() - 1)) {
            return NONE;
        }
        Boat b = boats.get(crew);
        if (b.seating == null) {
            return STATE;
        }
        for (String all : rules.get(rule).split(" or ")) {
            boolean holds = true;
            for (String test : all.split(" and ")) {
                holds &= testHolds(b, test);
            }
            if (holds) {
                return 1;
            }
        }
        return 0;
    }

    private boolean testHolds(Boat b, String text) {
        boolean not = text.startsWith("not ");
        String test = not ? text.substring(4) : text;
        String[] sides = test.split("[<=>]");
        long tally = b.seating.stream().map(paddlers::get).mapToLong(p -> {
            switch (sides[0]) {
                case "men": return 1 - p[3];
                case "women": return p[3];
                case "old": return p[4] >= 40 ? 1 : 0;
                case "young": return p[4] < 18 ? 1 : 0;
                case "weight": return p[0];
                default: return 1;
            }
        }).sum();
        int compared = Long.compare(tally, Long.parseLong(sides[1]));
        return ("<=>".indexOf(test.charAt(sides[0].length())) - 1 == compared) != not;
    }

    int rest(int minutes) {
        if (!in(minutes, 0, 99)) {
            return BAD;
        }
        int was = rest;
        rest = minutes;
        return was;
    }

    private boolean akin(int a, int b) {
        return a == b || !Collections.disjoint(boats.get(a).members, boats.get(b).members);
    }

    int lane(int crew, int lane) {
        if (noCrew(crew) || !in(lane, 0, 3)) {
            return NONE;
        }
        if (waiting.containsKey(lane) || waiting.values().stream().anyMatch(c -> akin(c, crew))) {
            return STATE;
        }
        waiting.put(lane, crew);
        return waiting.size();
    }

    private boolean akinRaces(Event a, Event b) {
        return a.lanes.values().stream().anyMatch(
                s -> b.lanes.values().stream().anyMatch(t -> akin(s.crew, t.crew)));
    }

    int race(int minute, int round) {
        if (!in(minute, 0, 999) || !in(round, 0, 1)) {
            return BAD;
        }
        if (waiting.size() < 2) {
            return STATE;
        }
        if (events.size() == 24) {
            return FULL;
        }
        Event e = new Event();
        e.minute = minute;
        e.round = round;
        waiting.forEach((lane, crew) -> {
            Start s = new Start();
            s.crew = crew;
            e.lanes.put(lane, s);
        });
        for (Event earlier : events) {
            if (Math.abs(earlier.minute - minute) < rest && akinRaces(earlier, e)) {
                return -10 - events.indexOf(earlier);
            }
        }
        waiting = new TreeMap<>();
        events.add(e);
        return events.size() - 1;
    }

    int current(int lane, int c) {
        if (!in(lane, 0, 3)) {
            return -100;
        }
        if (!in(c, -9, 9)) {
            return -101;
        }
        int was = currents[lane];
        currents[lane] = c;
        return was;
    }

    int run(int race, int distance) {
        if (noRace(race)) {
            return NONE;
        }
        if (!in(distance, 100, 2000)) {
            return BAD;
        }
        Event e = events.get(race);
        if (e.begun) {
            return STATE;
        }
        e.begun = true;
        int there = 0;
        for (Map.Entry<Integer, Start> entry : e.lanes.entrySet()) {
            Start s = entry.getValue();
            if (!s.struck && boats.get(s.crew).seating != null) {
                there += goes(s, currents[entry.getKey()], distance * 10) ? 1 : 0;
            }
        }
        return there;
    }

    private boolean goes(Start s, int current, int goal) {
        Boat b = boats.get(s.crew);
        int loss = Math.max(0, parts(b, b.seating)[4]) / 10;
        int[] fresh = new int[b.seating.size()];
        Arrays.fill(fresh, 1000);
        for (int stroke = 1; stroke <= 2000; stroke++) {
            int drive = 0;
            for (int seat = 0; seat < fresh.length; seat++) {
                drive += paddlers.get(b.seating.get(seat))[1] * fresh[seat] / 1000;
            }
            drive *= b.beat;
            int led = Math.max(Math.max(drive - loss, 1) + current, 1);
            int toGo = goal - s.gone;
            s.gone += led;
            if (s.gone >= goal) {
                s.time = 100 * (stroke - 1) + toGo * 100 / led;
                return true;
            }
            for (int seat = 0; seat < fresh.length; seat++) {
                fresh[seat] = Math.max(200, fresh[seat] - b.beat * b.beat);
            }
        }
        return false;
    }

    int time(int race, int lane, int hundredths) {
        Start s = startOf(race, lane);
        if (s == null) {
            return NONE;
        }
        if (!in(hundredths, 0, 99999)) {
            return BAD;
        }
        if (s.struck) {
            return STATE;
        }
        int was = s.time;
        s.time = hundredths;
        if (hundredths != 0) {
            events.get(race).begun = true;
        }
        return was;
    }

    private static int place(Event e, Start s) {
        if (s.time == 0) {
            return 0;
        }
        return 1 + (int) e.lanes.values().stream().filter(o -> o.time > 0 && o.time < s.time).count();
    }

    int told(int race, int lane, int what) {
        Start s = startOf(race, lane);
        if (s == null || !in(what, 0, 3)) {
            return NONE;
        }
        return new int[] {s.crew, s.time, place(events.get(race), s), s.gone}[what];
    }

    private static int timesOf(Event e) {
        return (int) e.lanes.values().stream().filter(s -> s.time > 0).count();
    }

    int again(int race) {
        if (noRace(race)) {
            return NONE;
        }
        Event e = events.get(race);
        int went = timesOf(e);
        e.begun = false;
        for (Start s : e.lanes.values()) {
            s.time = 0;
            s.gone = 0;
        }
        return went;
    }

    int strike(int race, int crew) {
        if (noRace(race)) {
            return NONE;
        }
        for (Start s : events.get(race).lanes.values()) {
            if (s.crew == crew) {
                int place = place(events.get(race), s);
                if (s.struck) {
                    return STATE;
                }
                s.struck = true;
                s.time = 0;
                return place;
            }
        }
        return NONE;
    }

    int finalists(int a, int b) {
        if (!in(a, 0, 9) || !in(b, 0, 9)) {
            return BAD;
        }
        Map<Integer, Integer> best = new LinkedHashMap<>();
        Set<Integer> chosen = new HashSet<>();
        for (Event e : events) {
            for (Start s : e.lanes.values()) {
                if (e.round == 0 && s.time > 0) {
                    best.merge(s.crew, s.time, Math::min);
                    if (place(e, s) <= a) {
                        chosen.add(s.crew);
                    }
                }
            }
        }
        Set<Integer> others = new HashSet<>(best.keySet());
        others.removeAll(chosen);
        for (int c : others) {
            if (others.stream().filter(o -> best.get(o) < best.get(c)).count() < b) {
                chosen.add(c);
            }
        }
        finalists = new ArrayList<>(chosen);
        finalists.sort(Comparator.<Integer>comparingInt(best::get).thenComparingInt(c -> c));
        return finalists.size();
    }

    int finalist(int i) {
        return in(i, 0, finalists.size() - 1) ? finalists.get(i) : NONE;
    }

    int slack() {
        int least = NONE;
        for (Event a : events) {
            for (Event b : events) {
                int between = Math.abs(a.minute - b.minute);
                if (a != b && akinRaces(a, b) && (least < 0 || between < least)) {
                    least = between;
                }
            }
        }
        return least;
    }

    long level(int first, int second, int part) {
        if (!in(first, 0, 3) || !in(second, 0, 3) || !in(part, 0, 1) || first == second) {
            return Long.MIN_VALUE;
        }
        long above = 0;
        long below = 0;
        for (int c = 0; c < boats.size(); c++) {
            int one = leastTime(c, first);
            int other = leastTime(c, second);
            if (one != Integer.MAX_VALUE && other != Integer.MAX_VALUE) {
                above += one - other;
                below++;
            }
        }
        if (below == 0) {
            return Long.MIN_VALUE;
        }
        for (int d = 6; d > 1; d--) {
            while (above % d == 0 && below % d == 0) {
                above /= d;
                below /= d;
            }
        }
        return part == 0 ? above : below;
    }

    private int leastTime(int crew, int lane) {
        int least = Integer.MAX_VALUE;
        for (Event e : events) {
            Start s = e.lanes.get(lane);
            if (s != null && s.crew == crew && s.time > 0) {
                least = Math.min(least, s.time);
            }
        }
        return least;
    }

    int points(int crew) {
        if (noCrew(crew)) {
            return NONE;
        }
        int[] worth = {10, 8, 6, 5, 4, 3};
        int sum = 0;
        for (Event e : events) {
            for (Start s : e.lanes.values()) {
                if (e.round == 1 && s.crew == crew && s.time > 0) {
                    int like = (int) e.lanes.values().stream().filter(o -> o.time == s.time).count();
                    int pot = 0;
                    for (int i = 0; i < like; i++) {
                        pot += worth[place(e, s) - 1 + i];
                    }
                    sum += pot * 60 / like;
                }
            }
        }
        return sum;
    }

    int table(int i) {
        if (noCrew(i)) {
            return NONE;
        }
        List<Integer> order = new ArrayList<>();
        for (int c = 0; c < boats.size(); c++) {
            order.add(c);
        }
        order.sort(Comparator.comparingInt(c -> -points(c)));
        return order.get(i);
    }

    int count(int what) {
        if (!in(what, 0, 8)) {
            return NONE;
        }
        return new int[] {
            paddlers.size(), boats.size(), rules.size(), events.size(), waiting.size(),
            tape.length(), rest, (int) boats.stream().filter(b -> b.seating != null).count(),
            events.stream().mapToInt(Model::timesOf).sum(),
        }[what];
    }
}
