/** Promises 14 to 25: rest, lanes, races, times, finalists, slack. */
public final class RacesTest {
    public static void main(String[] args) {
        rest();
        lane();
        laneOfCommonMembers();
        race();
        raceRest();
        raceFull();
        current();
        runStrokes();
        runSlowly();
        runRefusals();
        runAfterTelling();
        runNotForAll();
        time();
        told();
        again();
        strike();
        finalistsByPlaces();
        finalistsByTimes();
        finalistsRefusals();
        slack();
        Check.finish("RacesTest");
    }

    /** Crews without members: they race by told times alone. */
    private static DrumBoats emptyCrews(int crews) {
        DrumBoats x = new DrumBoats();
        for (int c = 0; c < crews; c++) {
            x.crew(2, 0);
        }
        return x;
    }

    private static int race(DrumBoats x, int minute, int round, int... crewsByLanes) {
        for (int lane = 0; lane < crewsByLanes.length; lane++) {
            if (crewsByLanes[lane] >= 0) {
                x.lane(crewsByLanes[lane], lane);
            }
        }
        return x.race(minute, round);
    }

    /** Two seated crews of two rows, without a tilt: strengths 4 times 50, and 4 times 1. */
    private static DrumBoats seatedCrews() {
        DrumBoats x = emptyCrews(2);
        for (int p = 0; p < 8; p++) {
            x.paddler(60, p < 4 ? 50 : 1, 2, 0, 30);
            x.join(p / 4, p);
        }
        x.seat(0);
        x.seat(1);
        return x;
    }

    private static void rest() {
        DrumBoats x = new DrumBoats();
        Check.due("rest at first", x.rest(0), 10);
        Check.due("rest 99", x.rest(99), 0);
        Check.due("rest 100", x.rest(100), -2);
        Check.due("rest -1", x.rest(-1), -2);
        Check.due("count(6)", x.count(6), 99);
    }

    private static void lane() {
        DrumBoats x = emptyCrews(3);
        Check.due("no crew", x.lane(3, 0), -1);
        Check.due("crew -1", x.lane(-1, 0), -1);
        Check.due("no lane", x.lane(0, 4), -1);
        Check.due("lane -1", x.lane(0, -1), -1);
        Check.due("lane", x.lane(0, 3), 1);
        Check.due("the lane is taken", x.lane(1, 3), -3);
        Check.due("the crew waits", x.lane(0, 2), -3);
        Check.due("another lane", x.lane(1, 0), 2);
        Check.due("a third", x.lane(2, 1), 3);
        Check.due("count(4)", x.count(4), 3);
    }

    private static void laneOfCommonMembers() {
        DrumBoats x = emptyCrews(3);
        for (int p = 0; p < 40; p++) {
            x.paddler(60, 50, 2, 0, 30);
        }
        x.join(0, 39);
        x.join(1, 39);
        x.join(2, 7);
        Check.due("lane", x.lane(0, 0), 1);
        Check.due("one with a member of it waits", x.lane(1, 1), -3);
        Check.due("no common member", x.lane(2, 1), 2);
    }

    private static void race() {
        DrumBoats x = emptyCrews(4);
        Check.due("nobody waits", x.race(0, 0), -3);
        x.lane(0, 1);
        Check.due("one waits", x.race(0, 0), -3);
        x.lane(1, 3);
        Check.due("minute -1", x.race(-1, 0), -2);
        Check.due("minute 1000", x.race(1000, 0), -2);
        Check.due("round -1", x.race(0, -1), -2);
        Check.due("round 2", x.race(0, 2), -2);
        Check.due("they wait on", x.count(4), 2);
        Check.due("race", x.race(999, 1), 0);
        Check.due("they wait no more", x.count(4), 0);
        Check.due("count(3)", x.count(3), 1);
        Check.due("bad ahead of state", x.race(1000, 0), -2);
        int[] crews = {-1, 0, -1, 1};
        for (int lane = 0; lane < 4; lane++) {
            Check.due("crew in lane " + lane, x.told(0, lane, 0), crews[lane]);
        }
        Check.due("the next race", race(x, 0, 0, 3, 2, 1, 0), 1);
        Check.due("its last lane", x.told(1, 3, 0), 0);
    }

    private static void raceRest() {
        DrumBoats x = emptyCrews(6);
        x.paddler(60, 50, 2, 0, 30);
        x.join(0, 0);
        x.join(5, 0);
        Check.due("race 0", race(x, 100, 0, 0, 1), 0);
        Check.due("race 1", race(x, 100, 0, 2, 3), 1);
        Check.due("too soon behind", race(x, 109, 0, 0, 4), -10);
        Check.due("they wait on", x.count(4), 2);
        Check.due("too soon ahead", x.race(91, 0), -10);
        Check.due("just ahead", x.race(90, 0), 2);
        Check.due("too soon for race 1", race(x, 105, 0, 4, 3), -11);
        Check.due("races 1 and 2 bar it: the first", x.race(99, 0), -11);
        Check.due("just behind", x.race(110, 0), 3);
        Check.due("a common member", race(x, 105, 0, 5, -1, 2), -10);
        Check.due("rest 5", x.rest(5), 10);
        Check.due("rest is shorter", x.race(105, 0), 4);
        Check.due("rest 0", x.rest(0), 5);
        Check.due("rest is none", race(x, 105, 0, 5, 1), 5);
        x.rest(99);
        Check.due("races 1, 2 and 3 bar it: the first", race(x, 50, 1, 3, 4), -11);
    }

    private static void raceFull() {
        DrumBoats x = emptyCrews(2);
        for (int i = 0; i < 24; i++) {
            Check.due("race " + i, race(x, 10 * i, 0, 0, 1), i);
        }
        Check.due("state ahead of full", x.race(500, 0), -3);
        Check.due("race 25", race(x, 500, 0, 0, 1), -4);
        Check.due("full ahead of rest", x.race(5, 0), -4);
        Check.due("bad ahead of full", x.race(5, 2), -2);
        Check.due("they wait on", x.count(4), 2);
        Check.due("count(3)", x.count(3), 24);
        // The last race counts like the others, and there is nothing behind it.
        x.time(23, 0, 1);
        x.time(23, 1, 2);
        Check.due("count(8) of 24 races", x.count(8), 2);
        Check.due("its second place", x.told(23, 1, 2), 2);
        Check.due("finalists of 24 races", x.finalists(1, 0), 1);
        Check.due("slack of 24 races", x.slack(), 10);
        Check.due("points of 24 races", x.points(0), 0);
        Check.due("table of 24 races", x.table(1), 1);
        Check.due("level of 24 races", x.level(0, 1, 0), Long.MIN_VALUE);
        Check.due("no race 24", x.told(24, 0, 0), -1);
    }

    private static void current() {
        DrumBoats x = new DrumBoats();
        Check.due("current", x.current(3, -9), 0);
        Check.due("current was", x.current(3, 9), -9);
        Check.due("current 10", x.current(3, 10), -101);
        Check.due("current -10", x.current(3, -10), -101);
        Check.due("lane 4", x.current(4, 10), -100);
        Check.due("lane -1", x.current(-1, 0), -100);
        Check.due("current is", x.current(3, 0), 9);
        Check.due("of another lane", x.current(2, 0), 0);
    }

    private static void runStrokes() {
        DrumBoats x = seatedCrews();
        x.beat(0, 9);
        x.current(0, -9);
        x.current(1, 3);
        race(x, 0, 0, 0, 1);
        Check.due("run", x.run(0, 100), 2);
        // 200 * 9 - 9 = 1791 at once: 1000 * 100 / 1791.
        Check.due("there at the first stroke", x.told(0, 0, 1), 55);
        Check.due("gone", x.told(0, 0, 3), 1791);
        // 4 * 4 + 3 at the first stroke; then each strength of 1 is cut to 0: 1 + 3 a stroke.
        // 19 + 4 * 245 = 999 behind stroke 246; the next leads from 999 to 1003.
        Check.due("the weak ones' time", x.told(0, 1, 1), 100 * 246 + 25);
        Check.due("the weak ones' way", x.told(0, 1, 3), 1003);
        Check.due("places", x.told(0, 0, 2) * 10 + x.told(0, 1, 2), 12);
        Check.due("count(8)", x.count(8), 2);

        // FRESH is 1000, 919, .. and 200 at least; TILT costs a tenth.
        DrumBoats y = seatedCrews();
        y.paddler(60, 50, 2, 0, 30);
        y.crew(2, 150);
        for (int p = 0; p < 4; p++) {
            y.join(2, p);
        }
        Check.due("a heavy drummer's tilt", y.seat(2), 300);
        y.beat(2, 9);
        race(y, 0, 0, 1, 2);
        y.run(0, 2000);
        int gone = 0;
        int fresh = 1000;
        int strokes = 0;
        int before = 0;
        while (gone < 20000) {
            before = gone;
            gone += 4 * (50 * fresh / 1000) * 9 - 30;
            fresh = Math.max(200, fresh - 81);
            strokes++;
        }
        Check.due("tiring ones' way", y.told(0, 1, 3), gone);
        Check.due("tiring ones' time", y.told(0, 1, 1),
                100 * (strokes - 1) + (20000 - before) * 100 / (gone - before));
    }

    private static void runSlowly() {
        DrumBoats x = seatedCrews();
        x.current(0, -9);
        x.current(1, -9);
        race(x, 0, 0, 0, 1);
        // 16 - 9 = 7, then 1 a stroke: 2006 behind stroke 2000.
        Check.due("run 200", x.run(0, 200), 2);
        Check.due("1 at least", x.told(0, 1, 1), 100 * 1993 + 100);
        x.again(0);
        Check.due("run 201", x.run(0, 201), 1);
        Check.due("2000 strokes at most", x.told(0, 1, 1), 0);
        Check.due("the way of one that is out", x.told(0, 1, 3), 2006);
        Check.due("the place of one that is out", x.told(0, 1, 2), 0);

        // Just there at stroke 2000: 7 and 1999.
        DrumBoats y = seatedCrews();
        y.current(1, 0);
        race(y, 0, 0, 0, 1);
        // 16, then 1 a stroke: 2015 behind stroke 2000.
        Check.due("run 201 without current", y.run(0, 201), 2);
        Check.due("there at stroke 1995", y.told(0, 1, 1), 100 * 1994 + 100);
        y.again(0);
        Check.due("run 202", y.run(0, 202), 1);
    }

    private static void runRefusals() {
        DrumBoats x = seatedCrews();
        Check.due("no race", x.run(0, 100), -1);
        race(x, 0, 0, 0, 1);
        Check.due("race -1", x.run(-1, 100), -1);
        Check.due("distance 99", x.run(0, 99), -2);
        Check.due("distance 2001", x.run(0, 2001), -2);
        Check.due("run", x.run(0, 100), 2);
        Check.due("run twice", x.run(0, 100), -3);
        Check.due("bad ahead of state", x.run(0, 2001), -2);
    }

    private static void runAfterTelling() {
        DrumBoats x = seatedCrews();
        race(x, 0, 0, 0, 1);
        x.time(0, 0, 1);
        Check.due("a time was told, the least one", x.run(0, 100), -3);
        x.time(0, 0, 0);
        Check.due("it was told all the same", x.run(0, 100), -3);
        x.again(0);
        Check.due("may be run again", x.run(0, 100), 2);
        x.again(0);
        x.time(0, 0, 0);
        Check.due("who is told to be out has no time told", x.run(0, 100), 2);
        Check.due("and is run like the others", x.told(0, 0, 3) > 0 ? 1 : 0, 1);
        x.time(0, 0, 0);
        Check.due("told to be out once it was run", x.run(0, 100), -3);
        x.again(0);
        Check.due("a refused time", x.time(0, 0, 100000), -2);
        Check.due("is not told", x.run(0, 100), 2);
        x.again(0);
        x.time(0, 0, 5);
        x.strike(0, 0);
        Check.due("a time was told of one struck since", x.run(0, 100), -3);
    }

    private static void runNotForAll() {
        DrumBoats x = seatedCrews();
        x.crew(2, 0);
        race(x, 0, 0, 0, 1, 2);
        x.strike(0, 0);
        Check.due("one struck, one not seated", x.run(0, 100), 1);
        Check.due("the struck one's time", x.told(0, 0, 1), 0);
        Check.due("the struck one's way", x.told(0, 0, 3), 0);
        Check.due("the time of one not seated", x.told(0, 2, 1), 0);
        Check.due("the way of one not seated", x.told(0, 2, 3), 0);
        Check.due("the first of them", x.told(0, 1, 2), 1);
        DrumBoats y = emptyCrews(2);
        race(y, 0, 0, 0, 1);
        Check.due("nobody is seated", y.run(0, 100), 0);
        Check.due("it was run", y.run(0, 100), -3);
    }

    private static void time() {
        DrumBoats x = emptyCrews(3);
        Check.due("no race", x.time(0, 0, 1), -1);
        race(x, 0, 0, 0, 1, 2);
        Check.due("race -1", x.time(-1, 0, 1), -1);
        Check.due("lane 4", x.time(0, 4, 1), -1);
        Check.due("lane -1", x.time(0, -1, 1), -1);
        Check.due("nobody in the lane", x.time(0, 3, -1), -1);
        Check.due("time -1", x.time(0, 0, -1), -2);
        Check.due("time 100000", x.time(0, 0, 100000), -2);
        Check.due("time 99999", x.time(0, 0, 99999), 0);
        Check.due("time was", x.time(0, 0, 1), 99999);
        Check.due("out", x.time(0, 0, 0), 1);
        Check.due("was out", x.time(0, 0, 7), 0);
        Check.due("count(8)", x.count(8), 1);
        x.strike(0, 0);
        Check.due("struck", x.time(0, 0, 7), -3);
        Check.due("struck, out", x.time(0, 0, 0), -3);
        Check.due("bad ahead of struck", x.time(0, 0, -1), -2);
    }

    private static void told() {
        DrumBoats x = emptyCrews(4);
        Check.due("no race", x.told(0, 0, 0), -1);
        race(x, 0, 0, 3, 2, 1, 0);
        int[] times = {300, 200, 0, 200};
        for (int lane = 0; lane < 4; lane++) {
            x.time(0, lane, times[lane]);
        }
        int[] places = {3, 1, 0, 1};
        for (int lane = 0; lane < 4; lane++) {
            Check.due("crew", x.told(0, lane, 0), 3 - lane);
            Check.due("time", x.told(0, lane, 1), times[lane]);
            Check.due("place", x.told(0, lane, 2), places[lane]);
            Check.due("way", x.told(0, lane, 3), 0);
        }
        Check.due("what 4", x.told(0, 0, 4), -1);
        Check.due("what -1", x.told(0, 0, -1), -1);
        Check.due("lane 4", x.told(0, 4, 0), -1);
        Check.due("lane -1", x.told(0, -1, 0), -1);
        Check.due("race 1", x.told(1, 0, 0), -1);
        Check.due("race -1", x.told(-1, 0, 0), -1);
        race(x, 20, 0, 0, -1, 1);
        for (int what = 0; what < 4; what++) {
            Check.due("nobody, what " + what, x.told(1, 1, what), -1);
        }
        Check.due("a race without times", x.told(1, 0, 2), 0);
        DrumBoats y = seatedCrews();
        race(y, 0, 0, 0, 1);
        y.run(0, 100);
        int way = y.told(0, 0, 3);
        y.time(0, 0, 77);
        Check.due("a told time replaces a run one", y.told(0, 0, 1), 77);
        Check.due("the way stays as it was run", y.told(0, 0, 3), way);
    }

    private static void again() {
        DrumBoats x = seatedCrews();
        Check.due("no race", x.again(0), -1);
        race(x, 0, 0, 0, 1);
        Check.due("race -1", x.again(-1), -1);
        Check.due("again without times", x.again(0), 0);
        x.run(0, 100);
        Check.due("again", x.again(0), 2);
        for (int what = 1; what < 4; what++) {
            Check.due("nothing is left of what " + what, x.told(0, 0, what), 0);
        }
        x.time(0, 0, 5);
        x.time(0, 1, 0);
        Check.due("one time went", x.again(0), 1);
        x.strike(0, 0);
        x.again(0);
        Check.due("who is struck stays so", x.time(0, 0, 5), -3);
        Check.due("and is not run", x.run(0, 100), 1);
    }

    private static void strike() {
        DrumBoats x = emptyCrews(4);
        Check.due("no race", x.strike(0, 0), -1);
        race(x, 0, 0, 0, 1, 2);
        Check.due("race -1", x.strike(-1, 0), -1);
        Check.due("crew -1", x.strike(0, -1), -1);
        Check.due("no crew", x.strike(0, 4), -1);
        Check.due("not in it", x.strike(0, 3), -1);
        x.time(0, 0, 10);
        x.time(0, 1, 20);
        Check.due("place ahead of that", x.strike(0, 1), 2);
        Check.due("no time any more", x.told(0, 1, 1), 0);
        Check.due("no place any more", x.told(0, 1, 2), 0);
        Check.due("still the crew of the lane", x.told(0, 1, 0), 1);
        Check.due("struck twice", x.strike(0, 1), -3);
        Check.due("struck without a time", x.strike(0, 2), 0);
        Check.due("count(8)", x.count(8), 1);
        Check.due("the first", x.strike(0, 0), 1);
        race(x, 20, 0, 0, 1);
        Check.due("in another race", x.time(1, 0, 5), 0);
        DrumBoats y = seatedCrews();
        race(y, 0, 0, 0, 1);
        y.strike(0, 0);
        Check.due("a strike is no time", y.run(0, 100), 1);
        int way = y.told(0, 1, 3);
        y.strike(0, 1);
        Check.due("the way stays as it was run", y.told(0, 1, 3), way);
    }

    /** Heats: crews 0 100, 1 200, 2 200, 3 300; then 4 50, 5 60, 3 70; a final, too. */
    private static DrumBoats heats() {
        DrumBoats x = emptyCrews(6);
        race(x, 0, 0, 0, 1, 2, 3);
        x.time(0, 0, 100);
        x.time(0, 1, 200);
        x.time(0, 2, 200);
        x.time(0, 3, 300);
        race(x, 20, 0, 4, 5, 3);
        x.time(1, 0, 50);
        x.time(1, 1, 60);
        x.time(1, 2, 70);
        race(x, 40, 1, 2, 1);
        x.time(2, 0, 1);
        x.time(2, 1, 2);
        return x;
    }

    private static void finalistsAre(DrumBoats x, int a, int b, int... crews) {
        String call = "finalists(" + a + ", " + b + ")";
        Check.due(call, x.finalists(a, b), crews.length);
        for (int i = 0; i < crews.length; i++) {
            Check.due(call + " " + i, x.finalist(i), crews[i]);
        }
        Check.due(call + " none behind", x.finalist(crews.length), -1);
    }

    private static void finalistsByPlaces() {
        DrumBoats x = heats();
        finalistsAre(x, 0, 0);
        finalistsAre(x, 1, 0, 4, 0);
        finalistsAre(x, 2, 0, 4, 5, 0, 1, 2);
        // Crew 3 is fourth in one heat, third in the other.
        finalistsAre(x, 3, 0, 4, 5, 3, 0, 1, 2);
        finalistsAre(x, 9, 9, 4, 5, 3, 0, 1, 2);
        x.strike(1, 4);
        finalistsAre(x, 1, 0, 5, 0);
    }

    private static void finalistsByTimes() {
        DrumBoats x = heats();
        finalistsAre(x, 0, 1, 4);
        finalistsAre(x, 0, 3, 4, 5, 3);
        finalistsAre(x, 0, 4, 4, 5, 3, 0);
        finalistsAre(x, 0, 5, 4, 5, 3, 0, 1, 2);
        finalistsAre(x, 1, 1, 4, 5, 0);
        finalistsAre(x, 1, 2, 4, 5, 3, 0);
        finalistsAre(x, 1, 3, 4, 5, 3, 0, 1, 2);
        // Of a crew in two heats the best time counts.
        x.time(0, 3, 10);
        finalistsAre(x, 0, 1, 3);
        x.again(1);
        finalistsAre(x, 0, 9, 3, 0, 1, 2);
        x.time(0, 3, 1);
        finalistsAre(x, 1, 1, 3, 0);
    }

    private static void finalistsRefusals() {
        DrumBoats x = heats();
        Check.due("finalist ahead of finalists", x.finalist(0), -1);
        x.finalists(1, 0);
        Check.due("a -1", x.finalists(-1, 0), -2);
        Check.due("a 10", x.finalists(10, 0), -2);
        Check.due("b -1", x.finalists(0, -1), -2);
        Check.due("b 10", x.finalists(0, 10), -2);
        Check.due("those of the latest not refused", x.finalist(1), 0);
        x.again(0);
        Check.due("they stay till the next", x.finalist(1), 0);
        Check.due("finalist -1", x.finalist(-1), -1);
        Check.due("finalist 2", x.finalist(2), -1);
    }

    private static void slack() {
        DrumBoats x = emptyCrews(6);
        Check.due("no race", x.slack(), -1);
        race(x, 500, 0, 0, 1);
        Check.due("one race", x.slack(), -1);
        race(x, 501, 0, 2, 3);
        Check.due("no common crews", x.slack(), -1);
        race(x, 200, 0, 4, 1);
        Check.due("one crew", x.slack(), 300);
        race(x, 520, 1, -1, -1, 5, 3);
        Check.due("less", x.slack(), 19);
        x.paddler(60, 50, 2, 0, 30);
        x.join(5, 0);
        Check.due("a member of one", x.slack(), 19);
        x.join(2, 0);
        x.join(1, 0);
        Check.due("common members that came later", x.slack(), 1);
        x.rest(0);
        race(x, 520, 1, 3, 0);
        Check.due("none", x.slack(), 0);
    }
}
