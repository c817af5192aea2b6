/**
 * LEVEL and POINTS of terms, part 4, and promises 26 to 29: each sentence that names a bound has a
 * test of its own, at the bound and on both sides of it.
 */
public final class PointBoundsTest {
    public static void main(String[] args) {
        levelKnowsItsLanes();
        levelOfOneLane();
        levelPartIs0Or1();
        levelOfTimesInBoth();
        levelOfLeastTimes();
        levelWithoutCommonDivisor();
        levelOfNothing();
        levelBelowNothing();
        levelOfSixCrews();
        levelOfTheLongestTimes();
        pointsByPlaces();
        pointsOfLikePlaces();
        pointsOfFinalsAlone();
        pointsOfAllFinals();
        pointsKnowTheirCrews();
        tableByPoints();
        tableIsAsLongAsTheCrews();
        countIsOf0To8();
        countSeatedCrews();
        countTimes();
        Check.finish("PointBoundsTest");
    }

    private static DrumBoats crews(int crews) {
        DrumBoats x = Make.crews(crews);
        x.rest(0);
        return x;
    }

    /** A race with told times: by lanes a crew (-1: nobody) and its time. */
    private static int race(DrumBoats x, int round, int... crewsAndTimes) {
        int lanes = crewsAndTimes.length / 2;
        for (int lane = 0; lane < lanes; lane++) {
            if (crewsAndTimes[2 * lane] >= 0) {
                x.lane(crewsAndTimes[2 * lane], lane);
            }
        }
        int race = x.race(0, round);
        for (int lane = 0; lane < lanes; lane++) {
            x.time(race, lane, crewsAndTimes[2 * lane + 1]);
        }
        return race;
    }

    private static void levelIs(DrumBoats x, int first, int second, long above, long below) {
        String call = "level(" + first + ", " + second + ", ";
        Check.due(call + "0)", x.level(first, second, 0), above);
        Check.due(call + "1)", x.level(first, second, 1), below);
    }

    private static void levelIsNone(DrumBoats x, int first, int second) {
        levelIs(x, first, second, Long.MIN_VALUE, Long.MIN_VALUE);
    }

    /** Crew 0 in each lane once, with the times 10, 20, 40, 80; crew 1 beside it, without one. */
    private static DrumBoats oneInAllLanes() {
        DrumBoats x = crews(2);
        race(x, 0, 0, 10, 1, 0);
        race(x, 1, 1, 0, 0, 20);
        race(x, 0, 1, 0, -1, 0, 0, 40);
        race(x, 1, 1, 0, -1, 0, -1, 0, 0, 80);
        return x;
    }

    /** "NO: none such". */
    private static void levelKnowsItsLanes() {
        DrumBoats x = oneInAllLanes();
        int[] times = {10, 20, 40, 80};
        for (int first = 0; first < 4; first++) {
            for (int second = 0; second < 4; second++) {
                if (first != second) {
                    levelIs(x, first, second, times[first] - times[second], 1);
                }
            }
            int[] none = {-1, 4, 5, Integer.MIN_VALUE, Integer.MAX_VALUE};
            for (int lane : none) {
                levelIsNone(x, first, lane);
                levelIsNone(x, lane, first);
                levelIsNone(x, lane, lane);
            }
        }
    }

    /** "NO: .. one LANE". */
    private static void levelOfOneLane() {
        DrumBoats x = oneInAllLanes();
        for (int lane = 0; lane < 4; lane++) {
            levelIsNone(x, lane, lane);
        }
    }

    /** "part 0 above, 1 below the line". */
    private static void levelPartIs0Or1() {
        DrumBoats x = oneInAllLanes();
        Check.due("part 0", x.level(1, 0, 0), 10);
        Check.due("part 1", x.level(1, 0, 1), 1);
        int[] none = {-1, 2, 3, Integer.MIN_VALUE, Integer.MAX_VALUE};
        for (int part : none) {
            Check.due("part " + part, x.level(1, 0, part), DrumBoats.NO);
        }
    }

    /** "NO: .. no CREW has TIMES in both". */
    private static void levelOfTimesInBoth() {
        DrumBoats x = crews(4);
        levelIsNone(x, 0, 1);
        race(x, 0, 0, 10, 1, 20);
        levelIsNone(x, 0, 1);
        int second = race(x, 0, 1, 0, 0, 0);
        levelIsNone(x, 0, 1);
        x.time(second, 1, 13);
        levelIs(x, 0, 1, -3, 1);
        levelIsNone(x, 0, 2);
        levelIsNone(x, 2, 3);
        x.time(second, 0, 1);
        levelIs(x, 0, 1, -11, 1);
        x.strike(second, 0);
        levelIs(x, 0, 1, -19, 1);
        x.again(second);
        levelIsNone(x, 0, 1);
    }

    /** "how much their least TIME in the first is more than that in the second". */
    private static void levelOfLeastTimes() {
        DrumBoats x = crews(2);
        race(x, 0, 0, 50, 1, 0);
        int first = race(x, 1, 0, 49, 1, 0);
        race(x, 0, 1, 0, 0, 30);
        int second = race(x, 1, 1, 0, 0, 31);
        levelIs(x, 0, 1, 19, 1);
        x.time(first, 0, 50);
        levelIs(x, 0, 1, 20, 1);
        x.time(first, 0, 51);
        levelIs(x, 0, 1, 20, 1);
        x.time(second, 1, 29);
        levelIs(x, 0, 1, 21, 1);
        x.time(second, 1, 0);
        levelIs(x, 0, 1, 20, 1);
    }

    /** Crews 0 to n - 1 with a time of 100 and a difference in lane 0, and of 100 in lane 1. */
    private static DrumBoats differing(int... more) {
        DrumBoats x = crews(6);
        for (int c = 0; c < more.length; c++) {
            race(x, 0, c, 100 + more[c], (c + 1) % 6, 0);
            race(x, 0, (c + 1) % 6, 0, c, 100);
        }
        return x;
    }

    /** "without a common divisor, below above 0". */
    private static void levelWithoutCommonDivisor() {
        levelIs(differing(1), 0, 1, 1, 1);
        levelIs(differing(1, 0), 0, 1, 1, 2);
        levelIs(differing(1, 1), 0, 1, 1, 1);
        levelIs(differing(2, 1), 0, 1, 3, 2);
        levelIs(differing(1, 1, 0), 0, 1, 2, 3);
        levelIs(differing(1, 1, 1), 0, 1, 1, 1);
        levelIs(differing(1, 1, 2), 0, 1, 4, 3);
        levelIs(differing(1, 0, 0, 0), 0, 1, 1, 4);
        levelIs(differing(1, 1, 0, 0), 0, 1, 1, 2);
        levelIs(differing(3, 3, 0, 0), 0, 1, 3, 2);
        levelIs(differing(1, 1, 1, 1, 0, 0), 0, 1, 2, 3);
        levelIs(differing(1, 1, 1, 0, 0, 0), 0, 1, 1, 2);
        levelIs(differing(1, 1, 1, 1, 1, 0), 0, 1, 5, 6);
        levelIs(differing(1, 1, 1, 1, 1), 0, 1, 1, 1);
        levelIs(differing(1, 1, 1, 1, 2), 0, 1, 6, 5);
    }

    /** "(0 is 0 by 1)". */
    private static void levelOfNothing() {
        levelIs(differing(0), 0, 1, 0, 1);
        levelIs(differing(1, -1), 0, 1, 0, 1);
        levelIs(differing(5, -4, -1), 0, 1, 0, 1);
        levelIs(differing(0, 0, 0, 0, 0, 0), 0, 1, 0, 1);
    }

    /** The line's above may be below 0; its below may not. */
    private static void levelBelowNothing() {
        levelIs(differing(-1), 0, 1, -1, 1);
        levelIs(differing(-1, 0), 0, 1, -1, 2);
        levelIs(differing(-1, -1, 0), 0, 1, -2, 3);
        levelIs(differing(-1, -1, -1, 1), 0, 1, -1, 2);
        levelIs(differing(-1, 0), 1, 0, 1, 2);
        levelIs(differing(-99), 0, 1, -99, 1);
    }

    private static void levelOfSixCrews() {
        levelIs(differing(1, 2, 3, 4, 5, 6), 0, 1, 7, 2);
        levelIs(differing(1, 2, 3, 4, 5, 6), 1, 0, -7, 2);
        levelIs(differing(0, 0, 0, 0, 0, 1), 0, 1, 1, 6);
    }

    private static void levelOfTheLongestTimes() {
        DrumBoats x = crews(2);
        race(x, 0, 0, 99999, 1, 0);
        race(x, 0, 1, 0, 0, 1);
        levelIs(x, 0, 1, 99998, 1);
        levelIs(x, 1, 0, -99998, 1);
    }

    private static void pointsAre(int[] times, int... points) {
        DrumBoats x = crews(4);
        race(x, 1, 0, times[0], 1, times[1], 2, times[2], 3, times[3]);
        for (int c = 0; c < 4; c++) {
            Check.due("points of crew " + c, x.points(c), points[c]);
        }
    }

    /** "10 for 1, 8, 6, 5, 4, 3"; "in sixtieths". */
    private static void pointsByPlaces() {
        pointsAre(new int[] {1, 2, 3, 4}, 600, 480, 360, 300);
        pointsAre(new int[] {4, 3, 2, 1}, 300, 360, 480, 600);
        pointsAre(new int[] {0, 0, 0, 1}, 0, 0, 0, 600);
        pointsAre(new int[] {0, 2, 0, 1}, 0, 480, 0, 600);
        pointsAre(new int[] {0, 0, 0, 0}, 0, 0, 0, 0);
    }

    /** "those of one PLACE share what it and the next ones (as many as they are) have". */
    private static void pointsOfLikePlaces() {
        pointsAre(new int[] {1, 1, 3, 4}, 540, 540, 360, 300);
        pointsAre(new int[] {1, 2, 2, 4}, 600, 420, 420, 300);
        pointsAre(new int[] {1, 2, 3, 3}, 600, 480, 330, 330);
        pointsAre(new int[] {1, 1, 3, 3}, 540, 540, 330, 330);
        pointsAre(new int[] {1, 1, 1, 4}, 480, 480, 480, 300);
        pointsAre(new int[] {1, 2, 2, 2}, 600, 380, 380, 380);
        pointsAre(new int[] {1, 1, 1, 1}, 435, 435, 435, 435);
        pointsAre(new int[] {1, 1, 0, 0}, 540, 540, 0, 0);
        pointsAre(new int[] {0, 7, 7, 7}, 0, 480, 480, 480);
    }

    /** "over all finals (ROUND 1)". */
    private static void pointsOfFinalsAlone() {
        DrumBoats x = crews(2);
        race(x, 0, 0, 1, 1, 2);
        Check.due("heat", x.points(0), 0);
        race(x, 1, 0, 0, 1, 0);
        Check.due("final without times", x.points(0), 0);
        int last = race(x, 1, 0, 2, 1, 1);
        Check.due("final", x.points(0), 480);
        x.again(last);
        Check.due("not as if it had been", x.points(0), 0);
    }

    /** All 24 RACES can be finals. */
    private static void pointsOfAllFinals() {
        DrumBoats x = crews(3);
        for (int i = 0; i < 24; i++) {
            race(x, 1, 0, 1, 1, 2, 2, 2);
            Check.due("first in " + (i + 1), x.points(0), 600 * (i + 1));
            Check.due("second in " + (i + 1), x.points(1), 420 * (i + 1));
        }
        x.strike(23, 0);
        Check.due("without the last", x.points(0), 600 * 23);
        Check.due("up a place", x.points(1), 420 * 23 + 540);
        x.time(0, 2, 3);
        Check.due("down a place", x.points(2), 420 * 22 + 360 + 540);
    }

    /** "POINTS of a CREW, in sixtieths. NONE." */
    private static void pointsKnowTheirCrews() {
        DrumBoats x = new DrumBoats();
        for (int c = 0; c < 6; c++) {
            Check.due("not there yet", x.points(c), Make.NONE);
            x.crew(2, 0);
            Check.due("there", x.points(c), 0);
        }
        Make.range("crew of points", 0, 5, Make.NONE, n -> x.points(n));
    }

    private static void tableIs(DrumBoats x, int... crews) {
        for (int i = 0; i < crews.length; i++) {
            Check.due("table(" + i + ")", x.table(i), crews[i]);
        }
        Check.due("none behind", x.table(crews.length), Make.NONE);
        Check.due("none ahead", x.table(-1), Make.NONE);
    }

    /** "by POINTS, the most first, of like ones by numbers". */
    private static void tableByPoints() {
        DrumBoats x = crews(6);
        tableIs(x, 0, 1, 2, 3, 4, 5);
        int last = race(x, 1, 5, 1, 4, 2, 3, 2, 2, 4);
        tableIs(x, 5, 3, 4, 2, 0, 1);
        x.time(last, 3, 2);
        tableIs(x, 5, 2, 3, 4, 0, 1);
        x.time(last, 3, 1);
        tableIs(x, 2, 5, 3, 4, 0, 1);
        race(x, 1, 1, 5, 0, 6);
        tableIs(x, 1, 2, 5, 0, 3, 4);
        race(x, 0, 4, 1, 3, 2);
        tableIs(x, 1, 2, 5, 0, 3, 4);
    }

    /** "The CREW at place i, from 0 on .. NONE." */
    private static void tableIsAsLongAsTheCrews() {
        DrumBoats x = new DrumBoats();
        Check.due("no crew", x.table(0), Make.NONE);
        for (int c = 0; c < 6; c++) {
            Check.due("not there yet", x.table(c), Make.NONE);
            x.crew(2, 0);
            Check.due("there", x.table(c), c);
        }
        Make.range("place of the table", 0, 5, Make.NONE, n -> x.table(n));
    }

    /** "0 PADDLERS, .. 8 TIMES in all RACES. NONE." */
    private static void countIsOf0To8() {
        Make.range("what of count", 0, 8, Make.NONE, n -> new DrumBoats().count(n));
        DrumBoats x = new DrumBoats();
        Make.paddlers(x, 40);
        for (int c = 0; c < 6; c++) {
            x.crew(2, 0);
            Make.join(x, c, 4 * c, 4);
            x.seat(c);
            Check.ruleOf(x, "men=" + c);
        }
        x.rest(0);
        for (int i = 0; i < 24; i++) {
            Make.race(x, 999, 0, 0, 1, 2, 3);
            Make.times(x, i, 1, 2, 3, 4);
        }
        for (int i = 0; i < 15; i++) {
            x.feed(0, 8);
        }
        for (int lane = 0; lane < 4; lane++) {
            x.lane(5 - lane, lane);
        }
        x.rest(99);
        int[] most = {40, 6, 6, 24, 4, 120, 99, 6, 96};
        for (int what = 0; what < most.length; what++) {
            Check.due("the most there is of " + what, x.count(what), most[what]);
        }
        Check.due("count(9)", x.count(9), Make.NONE);
        Check.due("count(-1)", x.count(-1), Make.NONE);
    }

    /** "7 SEATED CREWS". */
    private static void countSeatedCrews() {
        DrumBoats x = Make.crews(6);
        Make.paddlers(x, 5);
        for (int c = 0; c < 6; c++) {
            Make.join(x, c, 0, 4);
            Check.due("sought: " + c, x.count(7), c);
            x.seat(c);
            x.seat(c);
            Check.due("found: " + c, x.count(7), c + 1);
        }
        for (int c = 0; c < 6; c++) {
            x.join(c, 4);
            Check.due("a member came: " + c, x.count(7), 5 - c);
        }
    }

    /** "8 TIMES in all RACES": neither who is OUT nor who has none. */
    private static void countTimes() {
        DrumBoats x = crews(4);
        int heat = race(x, 0, 0, 1, 1, 0, 2, 99999);
        Check.due("a heat's", x.count(8), 2);
        int last = race(x, 1, 0, 1, 1, 1, 2, 1, 3, 1);
        Check.due("a final's, too", x.count(8), 6);
        x.time(last, 0, 0);
        Check.due("one is out", x.count(8), 5);
        x.strike(last, 1);
        Check.due("one is struck", x.count(8), 4);
        x.time(last, 2, 5);
        Check.due("one is told anew", x.count(8), 4);
        x.again(heat);
        Check.due("one race again", x.count(8), 2);
    }
}
