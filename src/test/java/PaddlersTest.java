/** Promises 1 to 10: paddlers, crews, seatings, tilts. */
public final class PaddlersTest {
    public static void main(String[] args) {
        newObject();
        paddler();
        like();
        crew();
        join();
        beat();
        seatLeastTilt();
        seatAmongEqualOnes();
        seatArms();
        seatRefusals();
        likesCountAtOnce();
        sits();
        trim();
        change();
        Check.finish("PaddlersTest");
    }

    /** A crew of two rows, members 0 .. 3 with weights 70, 80, 60, 75, seated. */
    private static DrumBoats seatedFour() {
        DrumBoats x = new DrumBoats();
        x.paddler(70, 50, 0, 0, 30);
        x.paddler(80, 60, 1, 0, 45);
        x.paddler(60, 40, 2, 1, 17);
        x.paddler(75, 55, 2, 1, 41);
        x.crew(2, 50);
        for (int p = 0; p < 4; p++) {
            x.join(0, p);
        }
        x.seat(0);
        return x;
    }

    private static void newObject() {
        DrumBoats x = new DrumBoats();
        int[] counts = {0, 0, 0, 0, 0, 0, 10, 0, 0};
        for (int what = 0; what < counts.length; what++) {
            Check.due("new: count(" + what + ")", x.count(what), counts[what]);
        }
        for (int lane = 0; lane < 4; lane++) {
            Check.due("new: current(" + lane + ", 0)", x.current(lane, 0), 0);
        }
        Check.due("new: finalist(0)", x.finalist(0), -1);
        Check.due("new: table(0)", x.table(0), -1);
        Check.due("new: slack()", x.slack(), -1);
        Check.due("new: finalists(9, 9)", x.finalists(9, 9), 0);
    }

    private static void paddler() {
        DrumBoats x = new DrumBoats();
        int[][] bad = {
            {29, 1, 0, 0, 10}, {151, 1, 0, 0, 10}, {30, 0, 0, 0, 10}, {30, 100, 0, 0, 10},
            {30, 1, -1, 0, 10}, {30, 1, 3, 0, 10}, {30, 1, 0, -1, 10}, {30, 1, 0, 2, 10},
            {30, 1, 0, 0, 9}, {30, 1, 0, 0, 91},
            {Integer.MIN_VALUE, 1, 0, 0, 10}, {30, Integer.MAX_VALUE, 0, 0, 10},
        };
        for (int[] b : bad) {
            Check.due("bad paddler", x.paddler(b[0], b[1], b[2], b[3], b[4]), -2);
        }
        Check.due("count(0) after bad ones", x.count(0), 0);
        Check.due("least paddler", x.paddler(30, 1, 0, 0, 10), 0);
        Check.due("greatest paddler", x.paddler(150, 99, 2, 1, 90), 1);
        for (int p = 2; p < 40; p++) {
            Check.due("paddler " + p, x.paddler(50, 50, 1, 0, 20), p);
        }
        Check.due("paddler 41", x.paddler(50, 50, 1, 0, 20), -4);
        Check.due("bad paddler ahead of full", x.paddler(29, 50, 1, 0, 20), -2);
        Check.due("count(0)", x.count(0), 40);
    }

    private static void like() {
        DrumBoats x = new DrumBoats();
        for (int p = 0; p < 40; p++) {
            x.paddler(50, 50, 2, 0, 20);
        }
        Check.due("like at first", x.like(0, 39, 1), 0);
        Check.due("like the other way about", x.like(39, 0, 1), 1);
        Check.due("another pair", x.like(0, 38, 0), 0);
        Check.due("like no more", x.like(39, 0, 0), 1);
        Check.due("like is gone", x.like(0, 39, 0), 0);
        Check.due("like no such a", x.like(-1, 0, 5), -1);
        Check.due("like no such b", x.like(0, 40, 1), -1);
        Check.due("like is 2", x.like(0, 1, 2), -2);
        Check.due("like is -1", x.like(0, 1, -1), -2);
        Check.due("like oneself", x.like(3, 3, 1), -2);
        Check.due("refused likes change nothing", x.like(0, 1, 0), 0);
    }

    private static void crew() {
        DrumBoats x = new DrumBoats();
        Check.due("crew of 1 row", x.crew(1, 0), -2);
        Check.due("crew of 5 rows", x.crew(5, 0), -2);
        Check.due("drummer of -1", x.crew(2, -1), -2);
        Check.due("drummer of 151", x.crew(2, 151), -2);
        for (int c = 0; c < 6; c++) {
            Check.due("crew " + c, x.crew(2 + c % 3, c * 30), c);
        }
        Check.due("crew 7", x.crew(4, 150), -4);
        Check.due("bad crew ahead of full", x.crew(5, 150), -2);
        Check.due("count(1)", x.count(1), 6);
    }

    private static void join() {
        DrumBoats x = new DrumBoats();
        for (int p = 0; p < 10; p++) {
            x.paddler(50, 50, 2, 0, 20);
        }
        x.crew(2, 0);
        x.crew(2, 0);
        Check.due("join no such crew", x.join(2, 0), -1);
        Check.due("join no such crew -1", x.join(-1, 0), -1);
        Check.due("join no such paddler", x.join(0, 10), -1);
        Check.due("join no such paddler -1", x.join(0, -1), -1);
        for (int p = 0; p < 8; p++) {
            Check.due("join " + p, x.join(0, p), p + 1);
        }
        Check.due("join a member of a full crew", x.join(0, 3), -3);
        Check.due("join a ninth", x.join(0, 8), -4);
        Check.due("join another crew too", x.join(1, 3), 1);
        Check.due("join twice", x.join(1, 3), -3);
        x.join(1, 4);
        x.join(1, 5);
        x.join(1, 6);
        x.seat(1);
        Check.due("seated", x.count(7), 1);
        Check.due("join twice, seated", x.join(1, 6), -3);
        Check.due("a refused join leaves it seated", x.count(7), 1);
        Check.due("join when seated", x.join(1, 7), 5);
        Check.due("not seated any more", x.count(7), 0);
        Check.due("nobody sits any more", x.sits(1, 0, 0), -1);
        Check.due("no trim any more", x.trim(1, 0), -3);
    }

    private static void beat() {
        DrumBoats x = new DrumBoats();
        x.crew(2, 0);
        x.crew(2, 0);
        Check.due("beat at first", x.beat(0, 9), 4);
        Check.due("beat then", x.beat(0, 1), 9);
        Check.due("beat 0", x.beat(0, 0), -2);
        Check.due("beat 10", x.beat(0, 10), -2);
        Check.due("beat of no crew", x.beat(2, 0), -1);
        Check.due("beat of crew -1", x.beat(-1, 5), -1);
        Check.due("beat was", x.beat(0, 2), 1);
        Check.due("beat of another", x.beat(1, 2), 4);
    }

    private static void seatLeastTilt() {
        DrumBoats x = seatedFour();
        Check.due("seat", x.seat(0), 95);
        int[] sitting = {0, 2, 3, 1};
        for (int seat = 0; seat < 4; seat++) {
            Check.due("sits " + seat, x.sits(0, seat / 2, seat % 2), sitting[seat]);
        }
        // Four rows: the strong in the middle, though the weights are all alike.
        DrumBoats y = new DrumBoats();
        int[] strengths = {90, 10, 20, 80, 30, 70, 60, 40};
        for (int p = 0; p < 8; p++) {
            y.paddler(60, strengths[p], 2, 0, 20);
        }
        y.crew(4, 0);
        for (int p = 0; p < 8; p++) {
            y.join(0, p);
        }
        Check.due("seat by strength", y.seat(0), -300);
        int[] order = {1, 2, 0, 3, 5, 6, 4, 7};
        for (int seat = 0; seat < 8; seat++) {
            Check.due("sits by strength " + seat, y.sits(0, seat / 2, seat % 2), order[seat]);
        }
        Check.due("count(7)", y.count(7), 1);
    }

    private static void seatAmongEqualOnes() {
        DrumBoats x = new DrumBoats();
        for (int p = 0; p < 8; p++) {
            x.paddler(50, 50, 2, 0, 20);
        }
        x.crew(3, 0);
        int[] came = {7, 2, 5, 0, 6, 1, 4};
        for (int p : came) {
            x.join(0, p);
        }
        Check.due("seat of like ones", x.seat(0), -100);
        for (int seat = 0; seat < 6; seat++) {
            Check.due("the order of coming decides " + seat, x.sits(0, seat / 2, seat % 2),
                    came[seat]);
        }
    }

    private static void seatArms() {
        DrumBoats x = new DrumBoats();
        int[] arms = {1, 1, 0, 0};
        for (int p = 0; p < 4; p++) {
            x.paddler(50, 50, arms[p], 0, 20);
        }
        x.crew(2, 0);
        for (int p = 0; p < 4; p++) {
            x.join(0, p);
        }
        Check.due("seat by arms", x.seat(0), 0);
        int[] order = {2, 0, 3, 1};
        for (int seat = 0; seat < 4; seat++) {
            Check.due("sits by arms " + seat, x.sits(0, seat / 2, seat % 2), order[seat]);
        }
    }

    private static void seatRefusals() {
        DrumBoats x = new DrumBoats();
        Check.due("seat of no crew", x.seat(0), -100000);
        Check.due("seat of crew -1", x.seat(-1), -100000);
        x.crew(2, 0);
        Check.due("seat of nobody", x.seat(0), -100001);
        for (int p = 0; p < 5; p++) {
            x.paddler(50, 50, p < 4 ? 0 : 1, 0, 20);
            x.join(0, p);
            Check.due("too few on the right, " + p, x.seat(0), -100001);
        }
        Check.due("count(7) with none", x.count(7), 0);
        x.paddler(50, 50, 2, 0, 20);
        x.join(0, 5);
        Check.due("enough on both", x.seat(0), 0);
        Check.due("count(7) with one", x.count(7), 1);
    }

    private static void likesCountAtOnce() {
        DrumBoats x = seatedFour();
        Check.due("no friends", x.trim(0, 3), 0);
        x.like(0, 2, 1);
        Check.due("a row of friends", x.trim(0, 3), 1);
        Check.due("tilt with friends", x.change(0, 0, 0), 75);
        x.like(0, 2, 0);
        x.like(1, 0, 1);
        Check.due("friends in different rows", x.trim(0, 3), 0);
        Check.due("seat with friends", x.seat(0), 85);
        Check.due("friends", x.trim(0, 3), 1);
        Check.due("who has moved", x.sits(0, 0, 0), 3);
    }

    private static void sits() {
        DrumBoats x = seatedFour();
        Check.due("sits", x.sits(0, 1, 1), 1);
        int[][] none = {{1, 0, 0}, {-1, 0, 0}, {0, 2, 0}, {0, -1, 0}, {0, 0, 2}, {0, 0, -1}};
        for (int[] n : none) {
            Check.due("sits none", x.sits(n[0], n[1], n[2]), -1);
        }
        x.crew(2, 0);
        Check.due("sits, not seated", x.sits(1, 0, 0), -1);
        // Numbers of paddlers, not of members.
        DrumBoats y = new DrumBoats();
        for (int p = 0; p < 6; p++) {
            y.paddler(50, 50, 2, 0, 20);
        }
        y.crew(2, 0);
        for (int p = 5; p > 1; p--) {
            y.join(0, p);
        }
        y.seat(0);
        Check.due("sits a paddler", y.sits(0, 0, 0), 5);
    }

    private static void trim() {
        DrumBoats x = seatedFour();
        Check.due("lean", x.trim(0, 0), 5);
        Check.due("pitch", x.trim(0, 1), 75);
        Check.due("middle", x.trim(0, 2), 0);
        Check.due("friends", x.trim(0, 3), 0);
        Check.due("trim 4", x.trim(0, 4), -1);
        Check.due("trim -1", x.trim(0, -1), -1);
        Check.due("trim of no crew", x.trim(1, 0), -1);
        x.crew(3, 0);
        Check.due("trim, not seated", x.trim(1, 0), -3);
        Check.due("trim 4, not seated", x.trim(1, 4), -1);
        for (int p = 0; p < 4; p++) {
            x.join(1, p);
        }
        x.paddler(90, 70, 0, 0, 50);
        x.paddler(65, 45, 1, 1, 20);
        x.join(1, 4);
        x.join(1, 5);
        Check.due("seat of three rows", x.seat(1), -130);
        Check.due("lean of three rows", x.trim(1, 0), 0);
        Check.due("pitch of three rows", x.trim(1, 1), 0);
        Check.due("middle of three rows", x.trim(1, 2), 130);
    }

    private static void change() {
        DrumBoats x = seatedFour();
        Check.due("change nothing", x.change(0, 3, 3), 95);
        Check.due("change on one side", x.change(0, 0, 2), 105);
        Check.due("change the other way", x.change(0, 2, 0), 105);
        Check.due("it was only asked", x.sits(0, 0, 0), 0);
        Check.due("change in a row: an arm", x.change(0, 0, 1), -100001);
        Check.due("change across: an arm", x.change(0, 2, 3), -100001);
        Check.due("change of either arms", x.change(0, 1, 2), 4 * 25 + 105);
        Check.due("no seat 4", x.change(0, 4, 0), -100000);
        Check.due("no seat -1", x.change(0, 0, -1), -100000);
        Check.due("no crew", x.change(1, 0, 0), -100000);
        x.crew(3, 0);
        Check.due("not seated", x.change(1, 0, 1), -100001);
        Check.due("not seated, no such seat", x.change(1, 6, 0), -100000);
    }
}
