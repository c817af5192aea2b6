/** Promises 26 to 29: levels of lanes, points, the table, counts. */
public final class PointsTest {
    public static void main(String[] args) {
        level();
        levelRefusals();
        points();
        pointsShared();
        table();
        count();
        Check.finish("PointsTest");
    }

    private static DrumBoats emptyCrews(int crews) {
        DrumBoats x = new DrumBoats();
        for (int c = 0; c < crews; c++) {
            x.crew(2, 0);
        }
        x.rest(0);
        return x;
    }

    /** A race with told times; pairs of crew and time by lanes, crew -1 for nobody. */
    private static int race(DrumBoats x, int round, int... crewsAndTimes) {
        for (int lane = 0; 2 * lane < crewsAndTimes.length; lane++) {
            if (crewsAndTimes[2 * lane] >= 0) {
                x.lane(crewsAndTimes[2 * lane], lane);
            }
        }
        int race = x.race(0, round);
        for (int lane = 0; 2 * lane < crewsAndTimes.length; lane++) {
            x.time(race, lane, crewsAndTimes[2 * lane + 1]);
        }
        return race;
    }

    private static void levelIs(DrumBoats x, int first, int second, long above, long below) {
        String call = "level(" + first + ", " + second;
        Check.due(call + ", 0)", x.level(first, second, 0), above);
        Check.due(call + ", 1)", x.level(first, second, 1), below);
    }

    private static void level() {
        DrumBoats x = emptyCrews(6);
        race(x, 0, 0, 100, 1, 200);
        race(x, 1, 1, 150, 0, 103);
        // Crew 0: 100 - 103; crew 1: 150 - 200.
        levelIs(x, 0, 1, -53, 2);
        levelIs(x, 1, 0, 53, 2);
        race(x, 0, 0, 90, 1, 210);
        race(x, 0, 0, 95, 1, 190);
        // The least times: 90 - 103 and 150 - 190.
        levelIs(x, 0, 1, -53, 2);
        race(x, 0, 2, 30, 3, 30);
        race(x, 0, 3, 40, 2, 20);
        // 30 - 20 and 40 - 30 more: -33 by 4.
        levelIs(x, 0, 1, -33, 4);
        race(x, 0, 4, 63, 5, 50);
        race(x, 0, 5, 60, 4, 40);
        // 23 and 10 more: 0 by 6.
        levelIs(x, 0, 1, 0, 1);
        x.time(0, 1, 0);
        x.time(2, 1, 160);
        // 150 - 160 instead of 150 - 190: 30 by 6.
        levelIs(x, 0, 1, 5, 1);
        DrumBoats y = emptyCrews(2);
        race(y, 0, 0, 1, 1, 1);
        race(y, 0, 1, 2, 0, 4);
        // 1 - 4 and 2 - 1.
        levelIs(y, 0, 1, -1, 1);
    }

    private static void levelRefusals() {
        long no = Long.MIN_VALUE;
        Check.due("NO", DrumBoats.NO, no);
        DrumBoats x = emptyCrews(3);
        levelIs(x, 0, 1, no, no);
        race(x, 0, 0, 100, 1, 200, 2, 0);
        levelIs(x, 0, 1, no, no);
        race(x, 0, 1, 0, 2, 100, 0, 100);
        levelIs(x, 0, 1, no, no);
        levelIs(x, 0, 2, 0, 1);
        levelIs(x, 0, 0, no, no);
        levelIs(x, -1, 0, no, no);
        levelIs(x, 0, -1, no, no);
        levelIs(x, 4, 0, no, no);
        levelIs(x, 0, 4, no, no);
        Check.due("part 2", x.level(0, 2, 2), no);
        Check.due("part -1", x.level(0, 2, -1), no);
        x.strike(1, 0);
        levelIs(x, 0, 2, no, no);
    }

    private static void points() {
        DrumBoats x = emptyCrews(6);
        race(x, 0, 0, 1, 1, 2, 2, 3, 3, 4);
        for (int c = 0; c < 6; c++) {
            Check.due("heats give none to " + c, x.points(c), 0);
        }
        race(x, 1, 0, 10, 1, 20, 2, 30, 3, 40);
        int[] after = {600, 480, 360, 300, 0, 0};
        for (int c = 0; c < 6; c++) {
            Check.due("points of " + c, x.points(c), after[c]);
        }
        race(x, 1, 4, 0, 1, 20, 0, 21);
        Check.due("points of one that is out", x.points(4), 0);
        Check.due("over all finals", x.points(1), 480 + 600);
        Check.due("over all finals, second", x.points(0), 600 + 480);
        Check.due("no crew", x.points(6), -1);
        Check.due("crew -1", x.points(-1), -1);
        x.strike(1, 0);
        Check.due("without its place", x.points(0), 480);
        Check.due("a place up", x.points(2), 480);
    }

    private static void shared(int[] times, int... sixtieths) {
        DrumBoats x = emptyCrews(4);
        race(x, 1, 0, times[0], 1, times[1], 2, times[2], 3, times[3]);
        for (int c = 0; c < 4; c++) {
            Check.due("shared points of " + c, x.points(c), sixtieths[c]);
        }
    }

    private static void pointsShared() {
        shared(new int[] {5, 5, 6, 7}, 540, 540, 360, 300);
        shared(new int[] {5, 6, 6, 7}, 600, 420, 420, 300);
        shared(new int[] {7, 7, 6, 6}, 330, 330, 540, 540);
        shared(new int[] {5, 5, 5, 7}, 480, 480, 480, 300);
        shared(new int[] {7, 9, 9, 9}, 600, 380, 380, 380);
        shared(new int[] {9, 9, 9, 9}, 435, 435, 435, 435);
        shared(new int[] {0, 9, 0, 9}, 0, 540, 0, 540);
    }

    private static void table() {
        DrumBoats x = emptyCrews(5);
        for (int i = 0; i < 5; i++) {
            Check.due("by numbers " + i, x.table(i), i);
        }
        race(x, 1, 0, 40, 1, 30, 2, 20, 4, 20);
        int[] order = {2, 4, 1, 0, 3};
        for (int i = 0; i < 5; i++) {
            Check.due("by points " + i, x.table(i), order[i]);
        }
        Check.due("table -1", x.table(-1), -1);
        Check.due("table 5", x.table(5), -1);
    }

    private static void count() {
        DrumBoats x = emptyCrews(3);
        for (int p = 0; p < 5; p++) {
            x.paddler(60, 50, 2, 0, 30);
            x.join(0, p);
        }
        x.seat(0);
        Check.ruleOf(x, "men<1");
        Check.ruleOf(x, "men<2");
        x.feed(0, 7);
        race(x, 0, 0, 5, 1, 6);
        race(x, 1, 0, 5, 1, 0, 2, 7);
        x.lane(0, 3);
        x.rest(33);
        int[] counts = {5, 3, 2, 2, 1, 7, 33, 1, 4};
        for (int what = 0; what < counts.length; what++) {
            Check.due("count(" + what + ")", x.count(what), counts[what]);
        }
        Check.due("count(9)", x.count(9), -1);
        Check.due("count(-1)", x.count(-1), -1);
    }
}
