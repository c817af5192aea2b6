import java.util.Random;

/** Runs of 512 calls by a seeded die: the class and the model answer alike. */
public final class ModelTest {
    private static final int RUNS = 400;
    private static final int CALLS = 512;
    private static final int BIG_CREWS = 60;

    private final DrumBoats x = new DrumBoats();
    private final Model m = new Model();
    private final Random die;
    private final String run;

    private ModelTest(int seed) {
        die = new Random(seed);
        run = "run " + seed + ": ";
    }

    public static void main(String[] args) {
        for (int seed = 0; seed < RUNS; seed++) {
            ModelTest t = new ModelTest(seed);
            t.begin();
            for (int call = 0; call < CALLS - 60; call++) {
                t.anyCall();
            }
        }
        for (int seed = 0; seed < BIG_CREWS; seed++) {
            new ModelTest(RUNS + seed).bigCrew(seed % 4);
        }
        Check.finish("ModelTest");
    }

    /** Eight members: of all kinds, or with so few kinds of them that many seatings are alike. */
    private void bigCrew(int kind) {
        for (int p = 0; p < 8; p++) {
            int weight = kind == 0 ? 30 + die.nextInt(121) : 60 + 10 * die.nextInt(1 + kind);
            int strength = kind == 1 ? 40 : 1 + die.nextInt(kind == 0 ? 99 : 3);
            int arm = die.nextInt(3) > 0 ? 2 : die.nextInt(2);
            due("paddler", x.paddler(weight, strength, arm, 0, 30),
                    m.paddler(weight, strength, arm, 0, 30));
        }
        int rows = kind == 0 ? 4 : 3 + die.nextInt(2);
        int drummer = die.nextInt(151);
        due("crew", x.crew(rows, drummer), m.crew(rows, drummer));
        for (int p = 0; p < 8; p++) {
            due("join", x.join(0, (3 * p + kind) % 8), m.join(0, (3 * p + kind) % 8));
        }
        seatAndAsk(0);
        for (int i = 0; i < 6; i++) {
            like();
        }
        seatAndAsk(0);
    }

    /** Mostly a number from low to high; now and then one beside them, or far away. */
    private int about(int low, int high) {
        int throwOf100 = die.nextInt(100);
        if (throwOf100 == 0) {
            int[] far = {Integer.MIN_VALUE, Integer.MAX_VALUE, -1, 0, 1, 1 << 16, 64};
            return far[die.nextInt(far.length)];
        }
        if (throwOf100 < 4) {
            return die.nextBoolean() ? low - 1 : high + 1;
        }
        return low + die.nextInt(high - low + 1);
    }

    /** A number of a small span within low .. high, so that like ones come often. */
    private int narrow(int low, int high, int span) {
        return about(low, Math.min(high, low + span));
    }

    private void due(String call, long got, long want) {
        Check.due(run + call, got, want);
    }

    private void begin() {
        int paddlers = 8 + die.nextInt(33);
        for (int i = 0; i < paddlers; i++) {
            paddler();
        }
        int crews = 2 + die.nextInt(5);
        for (int i = 0; i < crews; i++) {
            crew();
        }
        for (int crew = 0; crew < crews; crew++) {
            fill(crew);
        }
    }

    /** Neighbours in numbers, so that crews have no common members too often. */
    private void fill(int crew) {
        int joining = die.nextInt(9);
        for (int i = 0; i < joining; i++) {
            int paddler = (crew * 7 + i) % Math.max(1, m.count(0));
            due("join(" + crew + ", " + paddler + ")", x.join(crew, paddler),
                    m.join(crew, paddler));
        }
        if (die.nextBoolean()) {
            due("seat(" + crew + ")", x.seat(crew), m.seat(crew));
        }
    }

    private void paddler() {
        int weight = die.nextBoolean() ? about(30, 150) : narrow(50, 150, 3);
        int strength = die.nextInt(3) == 0 ? narrow(1, 99, 2) : about(1, 99);
        int arm = about(0, 2);
        arm = die.nextBoolean() ? 2 : arm;
        int sex = about(0, 1);
        int age = die.nextBoolean() ? about(10, 90) : 16 + die.nextInt(4);
        due("paddler", x.paddler(weight, strength, arm, sex, age),
                m.paddler(weight, strength, arm, sex, age));
    }

    private int anyPaddler() {
        return about(0, Math.max(0, m.count(0) - 1));
    }

    private int anyCrew() {
        return about(0, Math.max(0, m.count(1) - 1));
    }

    private int anyRace() {
        return about(0, Math.max(0, m.count(3) - 1));
    }

    private int anyLane() {
        return about(0, 3);
    }

    private void crew() {
        int rows = about(2, 4);
        rows = die.nextInt(3) == 0 ? rows : 2;
        int drummer = about(0, 150);
        due("crew(" + rows + ", " + drummer + ")", x.crew(rows, drummer), m.crew(rows, drummer));
    }

    private void join() {
        int crew = anyCrew();
        int paddler = anyPaddler();
        due("join(" + crew + ", " + paddler + ")", x.join(crew, paddler), m.join(crew, paddler));
    }

    private void like() {
        int a = anyPaddler();
        int b = die.nextInt(10) == 0 ? a : anyPaddler();
        int is = about(0, 1);
        due("like", x.like(a, b, is), m.like(a, b, is));
    }

    private void seatAndAsk(int crew) {
        due("seat(" + crew + ")", x.seat(crew), m.seat(crew));
        for (int seat = 0; seat < 8; seat++) {
            due("sits", x.sits(crew, seat / 2, seat % 2), m.sits(crew, seat / 2, seat % 2));
        }
    }

    private void anyCall() {
        switch (die.nextInt(8)) {
            case 0:
                boatCall();
                break;
            case 1:
                seatingCall();
                break;
            case 2:
                ruleCall();
                break;
            case 3:
            case 4:
                raceCall();
                break;
            case 5:
            case 6:
                timeCall();
                break;
            default:
                askingCall();
                break;
        }
    }

    private void boatCall() {
        int crew = anyCrew();
        int n = about(1, 9);
        switch (die.nextInt(12)) {
            case 0:
                paddler();
                break;
            case 1:
                crew();
                break;
            case 2:
                join();
                break;
            case 3:
            case 4:
                due("beat", x.beat(crew, n), m.beat(crew, n));
                break;
            default:
                like();
                break;
        }
    }

    private void seatingCall() {
        int crew = anyCrew();
        int what = about(0, 3);
        int one = about(0, 7);
        int other = about(0, 7);
        switch (die.nextInt(4)) {
            case 0:
                due("trim(" + crew + ", " + what + ")", x.trim(crew, what), m.trim(crew, what));
                break;
            case 1:
                int row = about(0, 3);
                int side = about(0, 1);
                due("sits", x.sits(crew, row, side), m.sits(crew, row, side));
                break;
            case 2:
                due("change(" + crew + ", " + one + ", " + other + ")",
                        x.change(crew, one, other), m.change(crew, one, other));
                break;
            default:
                seatAndAsk(crew);
                break;
        }
    }

    private String anyRule() {
        String[] fields = {"men", "women", "old", "young", "weight", "crew"};
        StringBuilder text = new StringBuilder();
        int tests = 1 + die.nextInt(die.nextInt(6) == 0 ? 10 : 4);
        for (int i = 0; i < tests; i++) {
            text.append(i == 0 ? "" : die.nextBoolean() ? " or " : " and ");
            text.append(die.nextInt(3) == 0 ? "not " : "");
            int field = die.nextInt(6);
            text.append(fields[field]).append("<=>".charAt(die.nextInt(3)));
            text.append(field == 4 ? 200 + die.nextInt(400) : die.nextInt(6));
        }
        if (die.nextInt(3) == 0) {
            spoil(text);
        }
        return text.length() > 120 ? text.substring(0, 120) : text.toString();
    }

    private void spoil(StringBuilder text) {
        int at = die.nextInt(text.length() + 1);
        String bytes = " or and not <=>0123456789menwomoldyug\u00ff\u0080\0";
        char any = bytes.charAt(die.nextInt(bytes.length()));
        switch (die.nextInt(3)) {
            case 0:
                text.setLength(at);
                break;
            case 1:
                text.insert(at, any);
                break;
            default:
                if (at < text.length()) {
                    text.setCharAt(at, any);
                }
                break;
        }
    }

    private void feedBoth(String text) {
        int from = 0;
        while (from < text.length()) {
            int n = Math.min(1 + die.nextInt(8), text.length() - from);
            long w = die.nextLong();
            for (int i = 0; i < n; i++) {
                w = w << 8 | text.charAt(from + i);
            }
            due("feed", x.feed(w, n), m.feed(w, n));
            from += n;
        }
    }

    private void ruleCall() {
        switch (die.nextInt(8)) {
            case 0:
                long w = die.nextLong();
                int n = about(1, 8);
                due("feed", x.feed(w, n), m.feed(w, n));
                break;
            case 1:
            case 2:
                String text = anyRule();
                feedBoth(text);
                due("rule of '" + text + "'", x.rule(), m.rule());
                break;
            case 3:
                due("rule", x.rule(), m.rule());
                break;
            default:
                int crew = anyCrew();
                int rule = about(0, Math.max(0, m.count(2) - 1));
                due("keeps", x.keeps(crew, rule), m.keeps(crew, rule));
                break;
        }
    }

    private void raceCall() {
        int crew = anyCrew();
        int lane = anyLane();
        int minute = about(0, 999);
        int round = about(0, 1);
        switch (die.nextInt(12)) {
            case 0:
                int minutes = die.nextBoolean() ? narrow(0, 99, 20) : about(0, 99);
                due("rest", x.rest(minutes), m.rest(minutes));
                break;
            case 1:
                int c = about(-9, 9);
                due("current", x.current(lane, c), m.current(lane, c));
                break;
            case 2:
            case 3:
            case 4:
                due("race(" + minute + ", " + round + ")", x.race(minute, round),
                        m.race(minute, round));
                break;
            default:
                due("lane(" + crew + ", " + lane + ")", x.lane(crew, lane), m.lane(crew, lane));
                break;
        }
    }

    private void timeCall() {
        int race = anyRace();
        int lane = anyLane();
        switch (die.nextInt(14)) {
            case 0:
            case 1:
            case 2:
                int distance = die.nextInt(3) == 0 ? about(100, 2000) : narrow(100, 2000, 50);
                due("run(" + race + ", " + distance + ")", x.run(race, distance),
                        m.run(race, distance));
                break;
            case 3:
            case 4:
            case 5:
            case 6:
            case 7:
                int hundredths = die.nextInt(4) == 0 ? about(0, 99999) : narrow(0, 99999, 9);
                due("time(" + race + ", " + lane + ", " + hundredths + ")",
                        x.time(race, lane, hundredths), m.time(race, lane, hundredths));
                break;
            case 8:
                if (die.nextInt(3) == 0) {
                    due("again(" + race + ")", x.again(race), m.again(race));
                }
                break;
            case 9:
                if (die.nextInt(3) == 0) {
                    int crew = anyCrew();
                    due("strike(" + race + ", " + crew + ")", x.strike(race, crew),
                            m.strike(race, crew));
                }
                break;
            default:
                int what = about(0, 3);
                due("told(" + race + ", " + lane + ", " + what + ")", x.told(race, lane, what),
                        m.told(race, lane, what));
                break;
        }
    }

    private void askingCall() {
        int i = about(0, 5);
        switch (die.nextInt(7)) {
            case 0:
                int a = die.nextBoolean() ? narrow(0, 9, 3) : about(0, 9);
                int b = die.nextBoolean() ? narrow(0, 9, 3) : about(0, 9);
                due("finalists(" + a + ", " + b + ")", x.finalists(a, b), m.finalists(a, b));
                break;
            case 1:
                due("finalist(" + i + ")", x.finalist(i), m.finalist(i));
                break;
            case 2:
                due("slack()", x.slack(), m.slack());
                break;
            case 3:
                int first = anyLane();
                int second = anyLane();
                int part = about(0, 1);
                due("level(" + first + ", " + second + ", " + part + ")",
                        x.level(first, second, part), m.level(first, second, part));
                break;
            case 4:
                due("points(" + i + ")", x.points(i), m.points(i));
                break;
            case 5:
                due("table(" + i + ")", x.table(i), m.table(i));
                break;
            default:
                int what = about(0, 8);
                due("count(" + what + ")", x.count(what), m.count(what));
                break;
        }
    }
}
