import java.util.ArrayList;
import java.util.List;
import java.util.function.Supplier;
import java.util.function.ToLongFunction;

/**
 * Terms, part 5: "REFUSALS, of several the first one told: NONE ..; BAD ..; STATE ..; FULL. They
 * change nothing." Each refused call is made on one of two objects that are alike; then both are
 * asked all there is to ask, in several ways, since some questions change what they ask about.
 */
public final class RefusalsTest {
    private static final int MOST_CALLS = 512;

    private interface Questions {
        void ask(DrumBoats x, List<Long> answers);
    }

    private static final Questions[] ALL_QUESTIONS = {
        RefusalsTest::askCountsAndSeats, RefusalsTest::askRaces, RefusalsTest::askLikes,
        RefusalsTest::askMembers, RefusalsTest::askWhoWaits, RefusalsTest::askTape,
        RefusalsTest::askRunsAndStrikes, RefusalsTest::askSettings, RefusalsTest::askRest,
        RefusalsTest::askNumbers,
    };

    public static void main(String[] args) {
        ofPaddlers();
        ofCrews();
        ofSeats();
        ofTheTape();
        ofWaiting();
        ofRaces();
        ofTimes();
        ofQuestions();
        ofAFullObject();
        theFirstOneTold();
        Check.finish("RefusalsTest");
    }

    // ---- the objects

    /**
     * Something of everything: crew 0 is seated, crew 1 seated, crew 2 empty, crew 3 full; a rule,
     * a begun tape, a heat with times and one struck, a final that was run, two who wait.
     */
    private static DrumBoats someOfAll() {
        DrumBoats x = new DrumBoats();
        for (int p = 0; p < 10; p++) {
            x.paddler(50 + 3 * p, 40 + 5 * p, p < 4 ? p % 2 : 2, p % 3 == 0 ? 1 : 0, 15 + 4 * p);
        }
        x.crew(2, 20);
        x.crew(2, 40);
        x.crew(2, 0);
        x.crew(4, 150);
        Make.join(x, 0, 0, 4);
        Make.join(x, 1, 4, 5);
        Make.join(x, 3, 0, 8);
        x.like(0, 1, 1);
        x.like(4, 6, 1);
        x.seat(0);
        x.seat(1);
        x.beat(1, 7);
        Check.ruleOf(x, "men=2 or old>1");
        Check.feedText(x, "men=2 or wo");
        x.rest(5);
        x.current(1, -4);
        Make.race(x, 10, 0, 0, 1, 2);
        Make.times(x, 0, 70, 60, 80);
        x.strike(0, 2);
        Make.race(x, 20, 1, 1, 0);
        x.run(1, 100);
        Make.race(x, 30, 1, 2, -1, 0);
        x.finalists(1, 1);
        x.lane(2, 3);
        x.lane(1, 0);
        return x;
    }

    /** As many of everything as there may be. */
    private static DrumBoats fullOfAll() {
        DrumBoats x = new DrumBoats();
        Make.paddlers(x, 40);
        for (int c = 0; c < 6; c++) {
            x.crew(2, c);
            Check.ruleOf(x, "men=" + c);
        }
        Make.join(x, 0, 0, 8);
        Make.join(x, 1, 8, 4);
        x.seat(0);
        for (int i = 0; i < 24; i++) {
            Make.race(x, 10 * i, i % 2, 0, 1);
        }
        Make.times(x, 23, 9, 8);
        for (int i = 0; i < 15; i++) {
            x.feed(0x6D656E3C31206F72L, 8);
        }
        x.lane(0, 1);
        x.lane(1, 2);
        return x;
    }

    // ---- what is asked

    private static void askCountsAndSeats(DrumBoats x, List<Long> answers) {
        for (int what = 0; what <= 8; what++) {
            answers.add((long) x.count(what));
        }
        for (int crew = 0; crew < 6; crew++) {
            for (int seat = 0; seat < 8; seat++) {
                answers.add((long) x.sits(crew, seat / 2, seat % 2));
                answers.add((long) x.change(crew, 0, seat));
            }
            for (int i = 0; i < 4; i++) {
                answers.add((long) x.trim(crew, i));
            }
            for (int i = 0; i < 6; i++) {
                answers.add((long) x.keeps(crew, i));
            }
        }
    }

    private static void askRaces(DrumBoats x, List<Long> answers) {
        for (int i = 0; i < 6; i++) {
            answers.add((long) x.finalist(i));
            answers.add((long) x.points(i));
            answers.add((long) x.table(i));
        }
        answers.add((long) x.slack());
        int[] races = {0, 1, 2, 3, 23};
        for (int race : races) {
            for (int lane = 0; lane < 4; lane++) {
                for (int what = 0; what < 4; what++) {
                    answers.add((long) x.told(race, lane, what));
                }
            }
        }
        for (int lane = 0; lane < 4; lane++) {
            answers.add(x.level(lane, (lane + 1) % 4, 0));
            answers.add(x.level(lane, (lane + 1) % 4, 1));
        }
    }

    private static void askLikes(DrumBoats x, List<Long> answers) {
        for (int a = 0; a < 10; a++) {
            for (int b = 0; b < a; b++) {
                answers.add((long) x.like(a, b, 0));
            }
        }
    }

    private static void askMembers(DrumBoats x, List<Long> answers) {
        for (int crew = 0; crew < 6; crew++) {
            for (int paddler = 0; paddler < 11; paddler++) {
                answers.add((long) x.join(crew, paddler));
            }
            answers.add((long) x.seat(crew));
            for (int seat = 0; seat < 4; seat++) {
                answers.add((long) x.sits(crew, seat / 2, seat % 2));
            }
        }
    }

    private static void askWhoWaits(DrumBoats x, List<Long> answers) {
        answers.add((long) x.race(999, 1));
        int race = x.count(3) - 1;
        for (int lane = 0; lane < 4; lane++) {
            answers.add((long) x.told(race, lane, 0));
        }
        for (int crew = 0; crew < 6; crew++) {
            for (int lane = 0; lane < 4; lane++) {
                answers.add((long) x.lane(crew, lane));
            }
        }
    }

    private static void askTape(DrumBoats x, List<Long> answers) {
        answers.add((long) Check.feedText(x, "men<9"));
        answers.add((long) x.rule());
        for (int rule = 0; rule < 6; rule++) {
            answers.add((long) x.keeps(0, rule));
            answers.add((long) x.keeps(1, rule));
        }
        answers.add((long) x.rule());
        answers.add((long) x.feed(0, 1));
    }

    private static void askRunsAndStrikes(DrumBoats x, List<Long> answers) {
        int[] races = {0, 1, 2, 3, 22, 23};
        for (int race : races) {
            answers.add((long) x.run(race, 150));
            for (int lane = 0; lane < 4; lane++) {
                answers.add((long) x.told(race, lane, 3));
                answers.add((long) x.time(race, lane, 50));
            }
            for (int crew = 0; crew < 6; crew++) {
                answers.add((long) x.strike(race, crew));
            }
            answers.add((long) x.again(race));
        }
    }

    private static void askSettings(DrumBoats x, List<Long> answers) {
        for (int crew = 0; crew < 6; crew++) {
            answers.add((long) x.beat(crew, 1));
        }
        for (int lane = 0; lane < 4; lane++) {
            answers.add((long) x.current(lane, 0));
        }
        answers.add((long) x.rest(0));
    }

    private static void askRest(DrumBoats x, List<Long> answers) {
        for (int minute = 0; minute < 60; minute++) {
            answers.add((long) x.race(minute, 0));
        }
    }

    private static void askNumbers(DrumBoats x, List<Long> answers) {
        answers.add((long) x.paddler(50, 50, 2, 0, 20));
        answers.add((long) x.crew(3, 9));
        answers.add((long) x.rule());
        answers.add((long) Check.ruleOf(x, "men=1"));
        answers.add((long) x.race(500, 0));
        answers.add((long) x.finalists(9, 9));
        for (int i = 0; i < 6; i++) {
            answers.add((long) x.finalist(i));
        }
    }

    // ---- how it is asked

    private static void refused(String call, Supplier<DrumBoats> make, long refusal,
            ToLongFunction<DrumBoats> refusedCall) {
        for (int i = 0; i < ALL_QUESTIONS.length; i++) {
            DrumBoats touched = make.get();
            DrumBoats untouched = make.get();
            Check.due(call, refusedCall.applyAsLong(touched), refusal);
            List<Long> after = new ArrayList<>();
            List<Long> due = new ArrayList<>();
            ALL_QUESTIONS[i].ask(touched, after);
            ALL_QUESTIONS[i].ask(untouched, due);
            Check.holds("few enough questions " + i, due.size() < MOST_CALLS - 230);
            for (int q = 0; q < due.size(); q++) {
                Check.due(call + ", refused, question " + i + "." + q, after.get(q), due.get(q));
            }
        }
    }

    private static void refused(String call, long refusal, ToLongFunction<DrumBoats> refusedCall) {
        refused(call, RefusalsTest::someOfAll, refusal, refusedCall);
    }

    // ---- what is refused

    private static void ofPaddlers() {
        refused("paddler of weight 29", Make.BAD, x -> x.paddler(29, 50, 2, 0, 20));
        refused("paddler of weight 151", Make.BAD, x -> x.paddler(151, 50, 2, 0, 20));
        refused("paddler of strength 0", Make.BAD, x -> x.paddler(50, 0, 2, 0, 20));
        refused("paddler of strength 100", Make.BAD, x -> x.paddler(50, 100, 2, 0, 20));
        refused("paddler of arm 3", Make.BAD, x -> x.paddler(50, 50, 3, 0, 20));
        refused("paddler of sex 2", Make.BAD, x -> x.paddler(50, 50, 2, 2, 20));
        refused("paddler of age 91", Make.BAD, x -> x.paddler(50, 50, 2, 0, 91));
        refused("like 2", Make.BAD, x -> x.like(0, 2, 2));
        refused("like -1", Make.BAD, x -> x.like(0, 1, -1));
        refused("like oneself", Make.BAD, x -> x.like(5, 5, 1));
        refused("like no a", Make.NONE, x -> x.like(10, 1, 1));
        refused("like no b", Make.NONE, x -> x.like(1, -1, 1));
    }

    private static void ofCrews() {
        refused("crew of 1 row", Make.BAD, x -> x.crew(1, 20));
        refused("crew of 5 rows", Make.BAD, x -> x.crew(5, 20));
        refused("crew with a drummer of 151", Make.BAD, x -> x.crew(2, 151));
        refused("crew with a drummer of -1", Make.BAD, x -> x.crew(2, -1));
        refused("join no crew", Make.NONE, x -> x.join(4, 0));
        refused("join of no paddler", Make.NONE, x -> x.join(0, 10));
        refused("join twice", Make.STATE, x -> x.join(0, 2));
        refused("join a full crew", Make.FULL, x -> x.join(3, 8));
        refused("beat of no crew", Make.NONE, x -> x.beat(4, 5));
        refused("beat 0", Make.BAD, x -> x.beat(1, 0));
        refused("beat 10", Make.BAD, x -> x.beat(1, 10));
    }

    private static void ofSeats() {
        refused("seat of no crew", Make.TILT_NONE, x -> x.seat(4));
        refused("seat of an empty crew", Make.TILT_STATE, x -> x.seat(2));
        refused("sits of no row", Make.NONE, x -> x.sits(0, 2, 0));
        refused("sits of one not seated", Make.NONE, x -> x.sits(2, 0, 0));
        refused("trim of no what", Make.NONE, x -> x.trim(0, 4));
        refused("trim of one not seated", Make.STATE, x -> x.trim(2, 0));
        refused("change of no seat", Make.TILT_NONE, x -> x.change(0, 0, 4));
        refused("change of one not seated", Make.TILT_STATE, x -> x.change(2, 0, 1));
        refused("change to the wrong side", Make.TILT_STATE, x -> x.change(0, 0, 1));
    }

    private static void ofTheTape() {
        refused("feed 0 bytes", Make.BAD, x -> x.feed(-1L, 0));
        refused("feed 9 bytes", Make.BAD, x -> x.feed(-1L, 9));
        refused("keeps of no crew", Make.NONE, x -> x.keeps(4, 0));
        refused("keeps of no rule", Make.NONE, x -> x.keeps(0, 1));
        refused("keeps of one not seated", Make.STATE, x -> x.keeps(2, 0));
    }

    private static void ofWaiting() {
        refused("rest -1", Make.BAD, x -> x.rest(-1));
        refused("rest 100", Make.BAD, x -> x.rest(100));
        refused("lane of no crew", Make.NONE, x -> x.lane(4, 1));
        refused("lane 4", Make.NONE, x -> x.lane(0, 4));
        refused("lane that is taken", Make.STATE, x -> x.lane(0, 3));
        refused("lane of one that waits", Make.STATE, x -> x.lane(2, 1));
        refused("lane of one with a common member", Make.STATE, x -> x.lane(3, 1));
    }

    private static void ofRaces() {
        refused("race at minute 1000", Make.BAD, x -> x.race(1000, 0));
        refused("race at minute -1", Make.BAD, x -> x.race(-1, 0));
        refused("race of round 2", Make.BAD, x -> x.race(500, 2));
        refused("race without rest", -10, x -> x.race(14, 1));
        refused("race without rest", -11, x -> x.race(24, 1));
        refused("race without rest", -12, x -> x.race(26, 1));
        refused("current of no lane", -100, x -> x.current(4, 5));
        refused("current 10", -101, x -> x.current(1, 10));
        refused("current -10", -101, x -> x.current(1, -10));
        refused("run of no race", Make.NONE, x -> x.run(3, 100));
        refused("run by 99", Make.BAD, x -> x.run(2, 99));
        refused("run by 2001", Make.BAD, x -> x.run(2, 2001));
        refused("run of told times", Make.STATE, x -> x.run(0, 100));
        refused("run of one that was run", Make.STATE, x -> x.run(1, 200));
    }

    private static void ofTimes() {
        refused("time in no race", Make.NONE, x -> x.time(3, 0, 5));
        refused("time of nobody", Make.NONE, x -> x.time(2, 1, 5));
        refused("time -1", Make.BAD, x -> x.time(2, 0, -1));
        refused("time 100000", Make.BAD, x -> x.time(0, 0, 100000));
        refused("time of one struck", Make.STATE, x -> x.time(0, 2, 5));
        refused("again of no race", Make.NONE, x -> x.again(3));
        refused("strike from no race", Make.NONE, x -> x.strike(3, 0));
        refused("strike one not in it", Make.NONE, x -> x.strike(2, 1));
        refused("strike one twice", Make.STATE, x -> x.strike(0, 2));
    }

    private static void ofQuestions() {
        refused("finalists of 10", Make.BAD, x -> x.finalists(10, 0));
        refused("finalists of -1", Make.BAD, x -> x.finalists(0, -1));
        refused("finalist 6", Make.NONE, x -> x.finalist(6));
        refused("told of nobody", Make.NONE, x -> x.told(2, 1, 0));
        refused("level of one lane", DrumBoats.NO, x -> x.level(1, 1, 0));
        refused("points of no crew", Make.NONE, x -> x.points(4));
        refused("table of no place", Make.NONE, x -> x.table(4));
        refused("count(9)", Make.NONE, x -> x.count(9));
    }

    private static void refusedWhenFull(String call, long refusal, ToLongFunction<DrumBoats> refusedCall) {
        refused(call + ", full", RefusalsTest::fullOfAll, refusal, refusedCall);
    }

    private static void ofAFullObject() {
        refusedWhenFull("paddler", Make.FULL, x -> x.paddler(50, 50, 2, 0, 20));
        refusedWhenFull("crew", Make.FULL, x -> x.crew(4, 150));
        refusedWhenFull("join", Make.FULL, x -> x.join(0, 39));
        refusedWhenFull("feed 1", Make.FULL, x -> x.feed('x', 1));
        refusedWhenFull("feed 8", Make.FULL, x -> x.feed(-1L, 8));
        refusedWhenFull("rule", Make.FULL, x -> x.rule());
        refusedWhenFull("race", Make.FULL, x -> x.race(900, 1));
    }

    /** "of several the first one told". */
    private static void theFirstOneTold() {
        refusedWhenFull("paddler: BAD ahead of FULL", Make.BAD, x -> x.paddler(50, 50, 2, 0, 91));
        refused("like: NONE ahead of BAD", Make.NONE, x -> x.like(10, 10, 2));
        refused("like: NONE ahead of BAD", Make.NONE, x -> x.like(0, 10, 2));
        refusedWhenFull("crew: BAD ahead of FULL", Make.BAD, x -> x.crew(2, 151));
        refused("join: NONE ahead of FULL", Make.NONE, x -> x.join(3, 10));
        refused("join: STATE ahead of FULL", Make.STATE, x -> x.join(3, 7));
        refused("beat: NONE ahead of BAD", Make.NONE, x -> x.beat(4, 10));
        refused("sits: not SEATED, and no row", Make.NONE, x -> x.sits(2, 4, 2));
        refused("trim: NONE ahead of STATE", Make.NONE, x -> x.trim(2, 4));
        refused("change: NONE ahead of STATE", Make.TILT_NONE, x -> x.change(2, 4, 0));
        refused("change: NONE ahead of an ARM", Make.TILT_NONE, x -> x.change(0, 1, 4));
        refusedWhenFull("feed: BAD ahead of FULL", Make.BAD, x -> x.feed(0, 9));
        refusedWhenFull("rule: FULL ahead of a FAULT", Make.FULL, x -> x.rule());
        refused("keeps: NONE ahead of STATE", Make.NONE, x -> x.keeps(2, 1));
        refused("lane: NONE ahead of STATE", Make.NONE, x -> x.lane(4, 3));
        refused("lane: NONE ahead of STATE", Make.NONE, x -> x.lane(2, 4));
        refusedWhenFull("race: BAD ahead of FULL and REST", Make.BAD, x -> x.race(5, 2));
        refusedWhenFull("race: FULL ahead of REST", Make.FULL, x -> x.race(5, 1));
        refused("race: BAD ahead of REST", Make.BAD, x -> x.race(10, -1));
        refused("current: NONE ahead of BAD", -100, x -> x.current(-1, 10));
        refused("run: NONE ahead of BAD", Make.NONE, x -> x.run(3, 99));
        refused("run: BAD ahead of STATE", Make.BAD, x -> x.run(1, 99));
        refused("time: NONE ahead of BAD", Make.NONE, x -> x.time(2, 1, -1));
        refused("time: BAD ahead of STATE", Make.BAD, x -> x.time(0, 2, 100000));
        refused("finalists: both BAD", Make.BAD, x -> x.finalists(10, -1));
    }
}
