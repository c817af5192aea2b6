import java.util.function.IntUnaryOperator;

/** What the tests of bounds begin with, and how they go to both sides of a bound. */
final class Make {
    static final int NONE = -1, BAD = -2, STATE = -3, FULL = -4;
    static final int TILT_NONE = -100000, TILT_STATE = -100001;

    private Make() {
    }

    /** Crews of two rows without members: they race by told times alone. */
    static DrumBoats crews(int crews) {
        DrumBoats x = new DrumBoats();
        for (int c = 0; c < crews; c++) {
            x.crew(2, 0);
        }
        return x;
    }

    /** Paddlers who are all alike: weight 50, strength 50, either arm, men of 20. */
    static void paddlers(DrumBoats x, int paddlers) {
        for (int p = 0; p < paddlers; p++) {
            x.paddler(50, 50, 2, 0, 20);
        }
    }

    /** The first members of a crew: paddlers from first on, in the order of their numbers. */
    static void join(DrumBoats x, int crew, int first, int members) {
        for (int p = first; p < first + members; p++) {
            x.join(crew, p);
        }
    }

    /** One crew, not sought yet, of as many members as there are rows of weight, strength, arm. */
    static DrumBoats boat(int rows, int drummer, int[][] members) {
        DrumBoats x = new DrumBoats();
        x.crew(rows, drummer);
        for (int p = 0; p < members.length; p++) {
            x.paddler(members[p][0], members[p][1], members[p][2], 0, 20);
            x.join(0, p);
        }
        return x;
    }

    /** The crews wait, each for the lane of its place in the list (-1: nobody), and have a race. */
    static int race(DrumBoats x, int minute, int round, int... crewsByLanes) {
        for (int lane = 0; lane < crewsByLanes.length; lane++) {
            if (crewsByLanes[lane] >= 0) {
                x.lane(crewsByLanes[lane], lane);
            }
        }
        return x.race(minute, round);
    }

    /** Tells the times of a race by lanes. */
    static void times(DrumBoats x, int race, int... times) {
        for (int lane = 0; lane < times.length; lane++) {
            x.time(race, lane, times[lane]);
        }
    }

    /**
     * A number from low to high is taken, at both ends and beside them within; every other one,
     * beside them without and far away, is refused. Each call is asked of an object of its own.
     */
    static void range(String call, int low, int high, int refusal, IntUnaryOperator answer) {
        int[] taken = {low, low + 1, (low + high) / 2, high - 1, high};
        for (int n : taken) {
            if (n >= low && n <= high) {
                Check.holds(call + " takes " + n, answer.applyAsInt(n) >= 0);
            }
        }
        int[] refused = {low - 1, high + 1, low - 2, high + 2, Integer.MIN_VALUE, Integer.MAX_VALUE,
            low + (1 << 8), low + (1 << 16), low - (1 << 16)};
        for (int n : refused) {
            if (n < low || n > high) {
                Check.due(call + " refuses " + n, answer.applyAsInt(n), refusal);
            }
        }
    }
}
