import com.sun.management.ThreadMXBean;
import java.lang.management.ManagementFactory;
import java.util.function.LongSupplier;

/**
 * "An object is used for at most 512 calls": the dearest calls, as many as that, make no objects,
 * and the last of them answers as the first one did.
 */
public final class RoomTest {
    private static final int MOST_CALLS = 512;
    /** What a new object may take, in bytes: some thousands of elements. */
    private static final long MOST_BYTES_OF_AN_OBJECT = 40_000;

    private static final ThreadMXBean THREADS =
            (ThreadMXBean) ManagementFactory.getThreadMXBean();

    public static void main(String[] args) {
        newObjects();
        takesNothing("seats", RoomTest::dearestSeats);
        takesNothing("runs", RoomTest::longestRaces);
        takesNothing("the other calls", RoomTest::everythingElse);
        lastCall();
        Check.finish("RoomTest");
    }

    /** The least of several turns, since the machine may make things of its own at the first. */
    private static void takesNothing(String calls, LongSupplier bytesOfATurn) {
        long least = Long.MAX_VALUE;
        for (int turn = 0; turn < 4; turn++) {
            least = Math.min(least, bytesOfATurn.getAsLong());
        }
        Check.due("bytes that " + calls + " take", least, 0);
    }

    private static long taken() {
        return THREADS.getThreadAllocatedBytes(Thread.currentThread().getId());
    }

    private static void newObjects() {
        new DrumBoats();
        long before = taken();
        DrumBoats x = new DrumBoats();
        long bytes = taken() - before;
        Check.due("it is there", x.count(6), 10);
        Check.holds("a new object takes few bytes: " + bytes, bytes < MOST_BYTES_OF_AN_OBJECT);
    }

    /** Eight for eight seats, either arm, all alike in nothing. */
    private static DrumBoats bigCrews() {
        DrumBoats x = new DrumBoats();
        for (int p = 0; p < 32; p++) {
            x.paddler(30 + 37 * p % 121, 1 + 23 * p % 99, 2, p % 2, 20 + p);
        }
        for (int c = 0; c < 4; c++) {
            x.crew(4, 50 * c);
            Make.join(x, c, 8 * c, 8);
        }
        return x;
    }

    private static long dearestSeats() {
        DrumBoats x = bigCrews();
        int[] first = {x.seat(0), x.seat(1), x.seat(2), x.seat(3)};
        int calls = 4 + 32 + 4 + 32;
        long before = taken();
        int wrong = 0;
        for (; calls < MOST_CALLS; calls++) {
            wrong += x.seat(calls % 4) == first[calls % 4] ? 0 : 1;
        }
        long bytes = taken() - before;
        Check.due("seats that differ from the first", wrong, 0);
        return bytes;
    }

    private static long longestRaces() {
        DrumBoats x = bigCrews();
        for (int c = 0; c < 4; c++) {
            x.seat(c);
            x.beat(c, 1);
            x.current(c, -9);
        }
        Make.race(x, 0, 0, 0, 1, 2, 3);
        int first = x.run(0, 2000);
        x.again(0);
        int calls = 100;
        long before = taken();
        int wrong = 0;
        for (; calls < MOST_CALLS; calls += 2) {
            wrong += x.run(0, 2000) == first ? 0 : 1;
            wrong += x.again(0) == first ? 0 : 1;
        }
        long bytes = taken() - before;
        Check.due("runs that differ from the first", wrong, 0);
        return bytes;
    }

    private static long everythingElse() {
        DrumBoats x = bigCrews();
        x.seat(0);
        x.seat(1);
        Make.race(x, 0, 1, 0, 1);
        ask(x, 1);
        long before = taken();
        ask(x, 11);
        return taken() - before;
    }

    private static void ask(DrumBoats x, int times) {
        for (int i = 0; i < times; i++) {
            x.paddler(50, 50, 2, 0, 20);
            x.like(0, 1, i % 2);
            x.crew(2, 0);
            x.join(2, i);
            x.beat(0, 5);
            x.sits(0, 0, 0);
            x.trim(0, 3);
            x.change(0, 0, 7);
            x.feed(0x6D656E3C31L, 5);
            x.rule();
            x.feed(0x6D656E3CL, 4);
            x.rule();
            x.keeps(0, 0);
            x.rest(i);
            x.lane(0, 0);
            x.lane(1, 1);
            x.race(50 * i, i % 2);
            x.current(0, 5);
            x.time(0, 0, 5 + i);
            x.time(0, 1, 5);
            x.told(0, 0, 2);
            x.finalists(i % 9, 9);
            x.finalist(0);
            x.strike(1, 0);
            x.slack();
            x.level(0, 1, 0);
            x.points(0);
            x.table(5);
            x.count(8);
        }
    }

    private static void lastCall() {
        DrumBoats x = new DrumBoats();
        Make.paddlers(x, 40);
        for (int call = 41; call < MOST_CALLS; call++) {
            Check.due("call " + call, x.paddler(50, 50, 2, 0, 20), Make.FULL);
        }
        Check.due("call 512", x.count(0), 40);
    }
}
