/**
 * Terms, part 1, and promises 1 to 10: each sentence that names a bound has a test of its own, at
 * the bound and on both sides of it.
 */
public final class PaddlerBoundsTest {
    public static void main(String[] args) {
        nothingIsThereAtFirst();
        paddlersAreFortyAtMost();
        weightIs30To150();
        strengthIs1To99();
        armIs0To2();
        sexIs0To1();
        ageIs10To90();
        likingIs0To1();
        twoLikeOneAnother();
        crewsAreSixAtMost();
        rowsAre2To4();
        drummerIs0To150();
        membersAreEightAtMost();
        onePaddlerInAllCrews();
        beatIs1To9();
        allSeatsAreTaken();
        noArmIsOnTheWrongSide();
        leanIsWithoutSign();
        pitchIsWithoutSign();
        heaviestDrummerAndPaddlers();
        middleIsTheLesserOfBoth();
        friendsAreCountedByRows();
        tiltMayBeBelowNothing();
        ofLikeSeatingsTheFirst();
        seatedTillAMemberComes();
        seatKnowsItsCrews();
        sitsInItsRowsAndSides();
        trimIsOf0To3();
        changeOfSeats();
        changeAndArms();
        changeOfOneSeat();
        Check.finish("PaddlerBoundsTest");
    }

    /** "Nothing; no CURRENTS." */
    private static void nothingIsThereAtFirst() {
        DrumBoats x = new DrumBoats();
        Check.due("no paddler", x.like(0, 1, 1), Make.NONE);
        Check.due("no crew", x.join(0, 0), Make.NONE);
        Check.due("no crew to beat", x.beat(0, 4), Make.NONE);
        Check.due("no crew to seat", x.seat(0), Make.TILT_NONE);
        Check.due("nobody sits", x.sits(0, 0, 0), Make.NONE);
        Check.due("no trim", x.trim(0, 0), Make.NONE);
        Check.due("no change", x.change(0, 0, 0), Make.TILT_NONE);
        Check.due("no rule", x.keeps(0, 0), Make.NONE);
        Check.due("no crew for a lane", x.lane(0, 0), Make.NONE);
        Check.due("nobody waits", x.race(0, 0), Make.STATE);
        Check.due("no race to run", x.run(0, 100), Make.NONE);
        Check.due("no race to time", x.time(0, 0, 1), Make.NONE);
        Check.due("no race to tell of", x.told(0, 0, 0), Make.NONE);
        Check.due("no race to have again", x.again(0), Make.NONE);
        Check.due("no race to strike from", x.strike(0, 0), Make.NONE);
        Check.due("no finalist", x.finalist(0), Make.NONE);
        Check.due("no finalists", x.finalists(9, 9), 0);
        Check.due("no slack", x.slack(), Make.NONE);
        Check.due("no level", x.level(0, 1, 0), DrumBoats.NO);
        Check.due("no points", x.points(0), Make.NONE);
        Check.due("no table", x.table(0), Make.NONE);
        for (int what = 0; what <= 8; what++) {
            Check.due("count(" + what + ")", x.count(what), what == 6 ? 10 : 0);
        }
        for (int lane = 0; lane < 4; lane++) {
            Check.due("no current in lane " + lane, x.current(lane, 1), 0);
        }
        Check.due("an empty tape", x.rule(), -10);
    }

    /** "PADDLERS are numbered from 0 on, 40 at most". */
    private static void paddlersAreFortyAtMost() {
        DrumBoats x = Make.crews(1);
        for (int p = 0; p < 39; p++) {
            Check.due("paddler " + p, x.paddler(50, 50, 2, 0, 20), p);
        }
        Check.due("39 is not there yet", x.join(0, 39), Make.NONE);
        Check.due("39 may come", x.paddler(50, 50, 2, 0, 20), 39);
        Check.due("40 may not", x.paddler(50, 50, 2, 0, 20), Make.FULL);
        Check.due("they are 40", x.count(0), 40);
        Check.due("39 joins", x.join(0, 39), 1);
        Check.due("0 joins", x.join(0, 0), 2);
        Check.due("40 is none to join", x.join(0, 40), Make.NONE);
        Check.due("-1 is none to join", x.join(0, -1), Make.NONE);
        Check.due("39 may be liked", x.like(39, 0, 1), 0);
        Check.due("40 may not be liked", x.like(40, 0, 1), Make.NONE);
        Check.due("40 may not like", x.like(0, 40, 1), Make.NONE);
        Check.due("-1 may not be liked", x.like(-1, 0, 1), Make.NONE);
        Check.due("-1 may not like", x.like(0, -1, 1), Make.NONE);
    }

    /** "WEIGHT 30 .. 150". */
    private static void weightIs30To150() {
        Make.range("weight", 30, 150, Make.BAD, n -> new DrumBoats().paddler(n, 50, 2, 0, 20));
    }

    /** "STRENGTH 1 .. 99". */
    private static void strengthIs1To99() {
        Make.range("strength", 1, 99, Make.BAD, n -> new DrumBoats().paddler(50, n, 2, 0, 20));
    }

    /** "ARM (0 left, 1 right, 2 either)". */
    private static void armIs0To2() {
        Make.range("arm", 0, 2, Make.BAD, n -> new DrumBoats().paddler(50, 50, n, 0, 20));
    }

    /** "SEX (0 man, 1 woman)". */
    private static void sexIs0To1() {
        Make.range("sex", 0, 1, Make.BAD, n -> new DrumBoats().paddler(50, 50, 2, n, 20));
    }

    /** "AGE 10 .. 90". */
    private static void ageIs10To90() {
        Make.range("age", 10, 90, Make.BAD, n -> new DrumBoats().paddler(50, 50, 2, 0, n));
    }

    private static DrumBoats paddlersAlone(int paddlers) {
        DrumBoats x = new DrumBoats();
        Make.paddlers(x, paddlers);
        return x;
    }

    /** "Two LIKE one another (1), or not (0) .. BAD: is, they are one." */
    private static void likingIs0To1() {
        Make.range("is", 0, 1, Make.BAD, n -> paddlersAlone(2).like(0, 1, n));
        DrumBoats x = paddlersAlone(3);
        for (int p = 0; p < 3; p++) {
            Check.due("one who likes itself", x.like(p, p, 1), Make.BAD);
            Check.due("one who likes itself not", x.like(p, p, 0), Make.BAD);
        }
        Check.due("the one beside", x.like(1, 2, 1), 0);
        Make.range("a", 0, 4, Make.NONE, n -> n == 3 ? 0 : paddlersAlone(5).like(n, 3, 1));
        Make.range("b", 0, 4, Make.NONE, n -> n == 3 ? 0 : paddlersAlone(5).like(3, n, 1));
    }

    /** "two may LIKE one another"; "what it was". */
    private static void twoLikeOneAnother() {
        DrumBoats x = paddlersAlone(40);
        int[][] pairs = {{0, 1}, {0, 31}, {0, 32}, {31, 32}, {38, 39}, {0, 39}};
        for (int[] pair : pairs) {
            Check.due("at first not", x.like(pair[0], pair[1], 1), 0);
            Check.due("the other way about", x.like(pair[1], pair[0], 1), 1);
        }
        Check.due("another pair is not touched", x.like(1, 31, 0), 0);
        for (int[] pair : pairs) {
            Check.due("till they do no more", x.like(pair[1], pair[0], 0), 1);
            Check.due("and not any more", x.like(pair[0], pair[1], 0), 0);
        }
    }

    /** "CREWS are numbered from 0 on, 6 at most". */
    private static void crewsAreSixAtMost() {
        DrumBoats x = new DrumBoats();
        Make.paddlers(x, 4);
        for (int c = 0; c < 6; c++) {
            Check.due("crew " + c + " is not there yet", x.join(c, 0), Make.NONE);
            Check.due("crew " + c, x.crew(2, 0), c);
            Check.due("crew " + c + " is there", x.join(c, 0), 1);
        }
        Check.due("a seventh", x.crew(2, 0), Make.FULL);
        Check.due("they are six", x.count(1), 6);
        Check.due("crew 6 is none", x.join(6, 0), Make.NONE);
        Check.due("crew -1 is none", x.join(-1, 0), Make.NONE);
    }

    /** "a boat of r ROWS (2 .. 4)". */
    private static void rowsAre2To4() {
        Make.range("rows", 2, 4, Make.BAD, n -> new DrumBoats().crew(n, 50));
    }

    /** "a DRUMMER's weight (0 .. 150)". */
    private static void drummerIs0To150() {
        Make.range("drummer", 0, 150, Make.BAD, n -> new DrumBoats().crew(2, n));
    }

    /** "MEMBERS, 8 at most"; "how many .. STATE: it is one; FULL." */
    private static void membersAreEightAtMost() {
        for (int rows = 2; rows <= 4; rows++) {
            DrumBoats x = new DrumBoats();
            x.crew(rows, 0);
            Make.paddlers(x, 9);
            for (int p = 0; p < 8; p++) {
                Check.due("member " + p, x.join(0, 8 - p), p + 1);
                Check.due("member " + p + " twice", x.join(0, 8 - p), Make.STATE);
            }
            Check.due("a ninth", x.join(0, 0), Make.FULL);
            Check.due("a ninth who is a member", x.join(0, 8), Make.STATE);
            Check.due("a ninth who is none", x.join(0, 9), Make.NONE);
            Check.holds("the eight are seated", x.seat(0) != Make.TILT_STATE);
            Check.due("the first who came", x.sits(0, 0, 0), 8);
        }
    }

    /** "A PADDLER may be a MEMBER of several CREWS." */
    private static void onePaddlerInAllCrews() {
        DrumBoats x = Make.crews(6);
        Make.paddlers(x, 1);
        for (int c = 0; c < 6; c++) {
            Check.due("a member of crew " + c, x.join(c, 0), 1);
        }
    }

    /** "BEAT (1 .. 9)"; "(4 at first): what it was". */
    private static void beatIs1To9() {
        Make.range("beat", 1, 9, Make.BAD, n -> Make.crews(1).beat(0, n));
        Make.range("crew that beats", 0, 2, Make.NONE, n -> Make.crews(3).beat(n, 5));
        DrumBoats x = Make.crews(1);
        Check.due("at first", x.beat(0, 1), 4);
        Check.due("refused", x.beat(0, 0), Make.BAD);
        Check.due("the least", x.beat(0, 9), 1);
        Check.due("refused", x.beat(0, 10), Make.BAD);
        Check.due("the most", x.beat(0, 4), 9);
    }

    /** "A SEATING of a CREW: its seats, all, each with one MEMBER, nobody in two". */
    private static void allSeatsAreTaken() {
        for (int rows = 2; rows <= 4; rows++) {
            DrumBoats x = new DrumBoats();
            x.crew(rows, 0);
            Make.paddlers(x, 8);
            for (int p = 0; p < 8; p++) {
                boolean enough = p >= 2 * rows;
                Check.due(p + " for " + rows + " rows", x.seat(0) != Make.TILT_STATE ? 1 : 0,
                        enough ? 1 : 0);
                Check.due("seated", x.count(7), enough ? 1 : 0);
                x.join(0, p);
            }
            Check.holds("8 for " + rows + " rows", x.seat(0) != Make.TILT_STATE);
            boolean[] sits = new boolean[8];
            for (int seat = 0; seat < 2 * rows; seat++) {
                int who = x.sits(0, seat / 2, seat % 2);
                Check.holds("one who sits nowhere else: " + who, who >= 0 && !sits[who]);
                sits[who] = true;
            }
        }
    }

    private static int seatOfArms(int... arms) {
        int[][] members = new int[arms.length][];
        for (int p = 0; p < arms.length; p++) {
            members[p] = new int[] {50, 50, arms[p]};
        }
        return Make.boat(2, 0, members).seat(0);
    }

    /** "on the left nobody with ARM right, on the right nobody with ARM left". */
    private static void noArmIsOnTheWrongSide() {
        int[][] fitting = {
            {0, 0, 1, 1}, {1, 1, 0, 0}, {2, 2, 1, 1}, {2, 2, 0, 0}, {0, 2, 1, 2}, {2, 2, 2, 2},
            {2, 2, 2, 1}, {2, 2, 2, 0}, {0, 0, 0, 1, 1}, {1, 1, 1, 2, 0}, {0, 0, 0, 0, 0, 0, 1, 1},
        };
        for (int[] arms : fitting) {
            Check.due("arms that fit", seatOfArms(arms), 0);
        }
        int[][] wrong = {
            {0, 0, 0, 1}, {0, 1, 1, 1}, {2, 1, 1, 1}, {2, 0, 0, 0}, {0, 0, 0, 0}, {1, 1, 1, 1},
            {0, 0, 0, 2}, {1, 1, 1, 2}, {0, 0, 0, 0, 1}, {0, 0, 0, 0, 0, 0, 0, 1},
            {1, 1, 1, 1, 1, 1, 1, 0}, {1, 1, 1, 1, 1, 1, 1, 2},
        };
        for (int[] arms : wrong) {
            Check.due("arms that do not fit", seatOfArms(arms), Make.TILT_STATE);
        }
    }

    /** "LEAN: the WEIGHTS on the left less those on the right, without sign." */
    private static void leanIsWithoutSign() {
        for (int by = -2; by <= 2; by++) {
            DrumBoats x = Make.boat(2, 0, new int[][] {
                {50 + by, 9, 0}, {50, 9, 0}, {50, 9, 1}, {50, 9, 1}});
            int size = Math.abs(by);
            Check.due("tilt, " + by + " to the left", x.seat(0), 5 * size);
            Check.due("lean, " + by + " to the left", x.trim(0, 0), size);
        }
    }

    /** "PITCH: over all seats WEIGHT times (2 ROW less (r - 1)), .. times - r, .. without sign." */
    private static void pitchIsWithoutSign() {
        // Two more in the last row of r are worth 2 (r - 1) a piece, a drummer's weight r.
        pitchIs(2, 60, 9, 2);
        pitchIs(2, 60, 10, 0);
        pitchIs(2, 60, 11, 2);
        pitchIs(3, 56, 7, 3);
        pitchIs(3, 56, 8, 0);
        pitchIs(3, 56, 9, 3);
        pitchIs(4, 54, 5, 4);
        pitchIs(4, 54, 6, 0);
        pitchIs(4, 54, 7, 4);
        for (int rows = 2; rows <= 4; rows++) {
            pitchIs(rows, 50, 0, 0);
            pitchIs(rows, 50, 1, rows);
            pitchIs(rows, 50, 150, 150 * rows);
        }
    }

    /** All of weight 50, but for one on each side; strengths are too small to tell. */
    private static void pitchIs(int rows, int heavier, int drummer, int pitch) {
        int[][] members = new int[2 * rows][];
        for (int p = 0; p < members.length; p++) {
            members[p] = new int[] {p < 2 ? heavier : 50, 1, p % 2};
        }
        DrumBoats x = Make.boat(rows, drummer, members);
        int middle = rows == 2 ? 0 : rows == 3 ? 2 : 4;
        String boat = rows + " rows, a drummer of " + drummer;
        Check.due("tilt of " + boat, x.seat(0), pitch - middle);
        Check.due("pitch of " + boat, x.trim(0, 1), pitch);
        Check.due("lean of " + boat, x.trim(0, 0), 0);
    }

    /** The greatest LEAN and PITCH that weights of 30 .. 150 can have. */
    private static void heaviestDrummerAndPaddlers() {
        int[][] lefts = new int[8][];
        for (int p = 0; p < 8; p++) {
            lefts[p] = new int[] {p % 2 == 0 ? 150 : 30, 99, p % 2};
        }
        DrumBoats x = Make.boat(4, 150, lefts);
        Check.due("tilt to the left", x.seat(0), 4 * 480 + 600 - 396);
        Check.due("lean", x.trim(0, 0), 480);
        Check.due("pitch", x.trim(0, 1), 600);
        for (int p = 0; p < 8; p++) {
            lefts[p][2] = 1 - p % 2;
        }
        DrumBoats y = Make.boat(4, 150, lefts);
        Check.due("tilt to the right", y.seat(0), 4 * 480 + 600 - 396);
        Check.due("lean to the right", y.trim(0, 0), 480);
        // Of two lefts and two rights the light ones are in front: 240 and 60 behind a drummer.
        DrumBoats z = Make.boat(2, 150, new int[][] {
            {150, 1, 0}, {30, 1, 0}, {150, 1, 1}, {30, 1, 1}});
        Check.due("tilt of a heavy drummer", z.seat(0), 300 - 240);
        Check.due("who sits in front", z.sits(0, 0, 0), 1);
        Check.due("the greatest pitch", z.change(0, 0, 2), 4 * 0 + 300);
    }

    /** "MIDDLE: over all seats STRENGTH times the lesser of ROW and r - 1 - ROW." */
    private static void middleIsTheLesserOfBoth() {
        int[] inside = {0, 2, 4};
        int[] strengths = {1, 50, 99};
        for (int rows = 2; rows <= 4; rows++) {
            for (int strength : strengths) {
                int[][] members = new int[2 * rows][];
                for (int p = 0; p < members.length; p++) {
                    members[p] = new int[] {50, strength, 2};
                }
                DrumBoats x = Make.boat(rows, 0, members);
                Check.due("tilt", x.seat(0), -inside[rows - 2] * strength);
                Check.due("middle", x.trim(0, 2), inside[rows - 2] * strength);
            }
        }
        // Changed from the first row into the second, and from the second into the third.
        int[][] members = new int[8][];
        for (int p = 0; p < 8; p++) {
            members[p] = new int[] {50, 10 + p, 2};
        }
        DrumBoats x = Make.boat(4, 0, members);
        Check.due("the strongest in the middle", x.seat(0), -(14 + 15 + 16 + 17));
        Check.due("first row", x.sits(0, 0, 0) * 10 + x.sits(0, 0, 1), 1);
        Check.due("second row", x.sits(0, 1, 0) * 10 + x.sits(0, 1, 1), 45);
        Check.due("last row", x.sits(0, 3, 0) * 10 + x.sits(0, 3, 1), 23);
        Check.due("first and second", x.change(0, 0, 2), -(10 + 15 + 16 + 17));
        Check.due("second and third", x.change(0, 2, 4), -(14 + 15 + 16 + 17));
        Check.due("third and last", x.change(0, 5, 7), -(14 + 15 + 16 + 13));
        Check.due("first and last", x.change(0, 0, 6), -(14 + 15 + 16 + 17));
    }

    /** "FRIENDS: how many ROWS have two who LIKE one another." */
    private static void friendsAreCountedByRows() {
        for (int rows = 2; rows <= 4; rows++) {
            int inMiddle = new int[] {0, 100, 200}[rows - 2];
            for (int pairs = 0; pairs <= rows; pairs++) {
                DrumBoats x = new DrumBoats();
                x.crew(rows, 0);
                Make.paddlers(x, 2 * rows);
                Make.join(x, 0, 0, 2 * rows);
                for (int pair = 0; pair < pairs; pair++) {
                    x.like(pair, 2 * rows - 1 - pair, 1);
                }
                Check.due(pairs + " pairs: tilt", x.seat(0), -inMiddle - 20 * pairs);
                Check.due(pairs + " pairs: friends", x.trim(0, 3), pairs);
                Check.due(pairs + " pairs, asked again", x.trim(0, 3), pairs);
            }
        }
        // Two who can only sit on one side are in one row never.
        DrumBoats x = Make.boat(2, 0, new int[][] {
            {50, 50, 0}, {50, 50, 0}, {50, 50, 1}, {50, 50, 1}});
        x.like(0, 1, 1);
        x.like(2, 3, 1);
        Check.due("friends on one side: tilt", x.seat(0), 0);
        Check.due("friends on one side", x.trim(0, 3), 0);
        x.like(0, 3, 1);
        Check.due("friends on both sides: tilt", x.seat(0), -20);
        Check.due("friends on both sides", x.trim(0, 3), 1);
        // All like all: one row counts once.
        for (int a = 0; a < 4; a++) {
            for (int b = 0; b < a; b++) {
                x.like(a, b, 1);
            }
        }
        Check.due("all like all", x.seat(0), -40);
        // None like one another any more.
        for (int a = 0; a < 4; a++) {
            for (int b = 0; b < a; b++) {
                x.like(a, b, 0);
            }
        }
        Check.due("none like one another", x.seat(0), 0);
        // One who likes an outsider has no friend in the boat.
        DrumBoats y = Make.boat(2, 0, new int[][] {
            {50, 50, 0}, {50, 50, 0}, {50, 50, 1}, {50, 50, 1}});
        y.paddler(50, 50, 2, 0, 20);
        y.like(0, 4, 1);
        Check.due("a friend ashore", y.seat(0), 0);
    }

    /** "TILT is 4 LEAN and PITCH and 0 less MIDDLE, and less 20 for each of FRIENDS." */
    private static void tiltMayBeBelowNothing() {
        int[] drummers = {19, 20, 21};
        for (int drummer : drummers) {
            DrumBoats x = Make.boat(2, drummer, new int[][] {
                {50, 50, 2}, {50, 50, 2}, {50, 50, 2}, {50, 50, 2}});
            x.like(0, 1, 1);
            x.like(2, 3, 1);
            Check.due("tilt about 0", x.seat(0), 2 * drummer - 40);
        }
        // A friend who weighs more costs 5 times that, 4 for the lean and 1 for the pitch: at 4
        // both seatings are alike, and the one with the lesser members goes.
        for (int by = 3; by <= 5; by++) {
            DrumBoats x = Make.boat(2, 0, new int[][] {
                {60, 1, 0}, {60, 1, 0}, {60, 1, 1}, {60, 1, 1}, {60 + by, 1, 1}});
            x.like(0, 4, 1);
            Check.due("a friend of " + by + " more", x.seat(0), Math.min(0, 5 * by - 20));
            Check.due("sits beside", x.sits(0, 0, 1), by < 4 ? 4 : 2);
        }
    }

    /** "of several the one in which the left seat of ROW 0 has the lesser MEMBER .. and so on". */
    private static void ofLikeSeatingsTheFirst() {
        for (int rows = 2; rows <= 4; rows++) {
            DrumBoats x = new DrumBoats();
            x.crew(rows, 0);
            Make.paddlers(x, 9);
            int[] came = {8, 3, 5, 0, 7, 1, 6, 2};
            for (int p : came) {
                x.join(0, p);
            }
            x.seat(0);
            for (int seat = 0; seat < 2 * rows; seat++) {
                Check.due("seat " + seat, x.sits(0, seat / 2, seat % 2), came[seat]);
            }
        }
        // The first can only sit on the right; the left seat of the first row decides all the same.
        sitAs(new int[] {1, 2, 2, 2}, 1, 0, 2, 3);
        sitAs(new int[] {1, 1, 2, 2}, 2, 0, 3, 1);
        sitAs(new int[] {0, 0, 2, 2}, 0, 2, 1, 3);
        sitAs(new int[] {2, 0, 0, 2}, 1, 0, 2, 3);
        sitAs(new int[] {0, 0, 0, 1, 1}, 0, 3, 1, 4);
        sitAs(new int[] {1, 1, 1, 2, 0, 0}, 3, 0, 4, 1);
    }

    private static void sitAs(int[] arms, int... sitting) {
        int[][] members = new int[arms.length][];
        for (int p = 0; p < arms.length; p++) {
            members[p] = new int[] {50, 50, arms[p]};
        }
        DrumBoats x = Make.boat(2, 0, members);
        x.seat(0);
        for (int seat = 0; seat < sitting.length; seat++) {
            Check.due("by arms, seat " + seat, x.sits(0, seat / 2, seat % 2), sitting[seat]);
        }
    }

    /** "A CREW is SEATED once THE BEST SEATING was sought and found, till a MEMBER of it comes." */
    private static void seatedTillAMemberComes() {
        DrumBoats x = Make.crews(2);
        Make.paddlers(x, 6);
        Make.join(x, 0, 0, 4);
        Make.join(x, 1, 0, 4);
        Check.due("not sought yet", x.count(7), 0);
        x.seat(0);
        Check.due("sought and found", x.count(7), 1);
        x.seat(1);
        Check.due("both", x.count(7), 2);
        Check.due("one who is a member", x.join(0, 3), Make.STATE);
        Check.due("one who is none", x.join(0, 6), Make.NONE);
        Check.due("those were refused", x.count(7), 2);
        x.beat(0, 9);
        x.like(0, 1, 1);
        x.paddler(99, 9, 2, 0, 20);
        Check.due("seated still", x.count(7), 2);
        Check.due("a member comes", x.join(0, 4), 5);
        Check.due("not seated any more", x.count(7), 1);
        Check.due("nobody sits", x.sits(0, 0, 0), Make.NONE);
        Check.due("in the other one they do", x.sits(1, 0, 0), 0);
        x.seat(0);
        Check.due("sought again", x.count(7), 2);
        // Sought, and none found.
        DrumBoats y = Make.crews(1);
        Make.paddlers(y, 4);
        Make.join(y, 0, 0, 3);
        Check.due("three for four seats", y.seat(0), Make.TILT_STATE);
        Check.due("not seated then", y.count(7), 0);
        Check.due("not seated: sits", y.sits(0, 0, 0), Make.NONE);
        Check.due("not seated: trim", y.trim(0, 0), Make.STATE);
        Check.due("not seated: change", y.change(0, 0, 1), Make.TILT_STATE);
        y.join(0, 3);
        Check.due("four, not sought", y.count(7), 0);
        Check.due("four", y.seat(0), 0);
        Check.due("seated then", y.count(7), 1);
        // None found for one crew behind another for which one was.
        y.crew(2, 0);
        for (int p = 0; p < 4; p++) {
            y.join(1, y.paddler(50, 50, 1, 0, 20));
        }
        Check.due("four who sit on the right", y.seat(1), Make.TILT_STATE);
        Check.due("nobody sits", y.sits(1, 0, 0), Make.NONE);
        Check.due("the other one is seated still", y.count(7), 1);
    }

    /** "-100000: NONE; -100001: STATE: there is none". */
    private static void seatKnowsItsCrews() {
        DrumBoats x = Make.crews(6);
        int[] none = {-1, 6, 7, Integer.MIN_VALUE, Integer.MAX_VALUE};
        for (int crew : none) {
            Check.due("seat of crew " + crew, x.seat(crew), Make.TILT_NONE);
        }
        Check.due("seat of the first", x.seat(0), Make.TILT_STATE);
        Check.due("seat of the last", x.seat(5), Make.TILT_STATE);
    }

    /** "Who sits in a ROW on a side (0 left, 1 right). NONE: none such; it is not SEATED." */
    private static void sitsInItsRowsAndSides() {
        for (int rows = 2; rows <= 4; rows++) {
            DrumBoats x = new DrumBoats();
            x.crew(rows, 0);
            Make.paddlers(x, 8);
            Make.join(x, 0, 0, 2 * rows);
            Check.due("not seated", x.sits(0, 0, 0), Make.NONE);
            x.seat(0);
            int last = rows - 1;
            Make.range("row of " + rows, 0, last, Make.NONE, n -> x.sits(0, n, 0));
            Make.range("side", 0, 1, Make.NONE, n -> x.sits(0, last, n));
            Make.range("the only crew", 0, 0, Make.NONE, n -> x.sits(n, 0, 0));
            Check.due("the last seat", x.sits(0, last, 1), 2 * rows - 1);
            Check.due("the seat behind it", x.sits(0, rows, 0), Make.NONE);
        }
    }

    private static DrumBoats seatedFour() {
        DrumBoats x = Make.crews(2);
        Make.paddlers(x, 5);
        Make.join(x, 0, 0, 4);
        x.seat(0);
        return x;
    }

    /** "what 0 LEAN, 1 PITCH, 2 MIDDLE, 3 FRIENDS. NONE; STATE: it is not SEATED." */
    private static void trimIsOf0To3() {
        Make.range("what of trim", 0, 3, Make.NONE, n -> seatedFour().trim(0, n));
        DrumBoats x = seatedFour();
        int[] none = {-1, 2, Integer.MIN_VALUE, Integer.MAX_VALUE};
        for (int crew : none) {
            Check.due("trim of crew " + crew, x.trim(crew, 0), Make.NONE);
        }
        for (int what = 0; what <= 3; what++) {
            Check.due("not seated", x.trim(1, what), Make.STATE);
        }
        x.join(0, 4);
        Check.due("not seated any more", x.trim(0, 0), Make.STATE);
    }

    /** "if two seats (2 ROW and side) changed about. -100000: NONE". */
    private static void changeOfSeats() {
        for (int rows = 2; rows <= 4; rows++) {
            DrumBoats x = new DrumBoats();
            x.crew(rows, 0);
            Make.paddlers(x, 8);
            Make.join(x, 0, 0, 2 * rows);
            int tilt = x.seat(0);
            int last = 2 * rows - 1;
            int[] none = {-1, -2, last + 1, last + 2, Integer.MIN_VALUE, Integer.MAX_VALUE};
            for (int seat : none) {
                Check.due("change of " + seat, x.change(0, seat, 0), Make.TILT_NONE);
                Check.due("change with " + seat, x.change(0, 0, seat), Make.TILT_NONE);
                Check.due("change of crew " + seat, x.change(seat, 0, 0), Make.TILT_NONE);
            }
            Check.due("the first and the last", x.change(0, 0, last), tilt);
            Check.due("the last and the first", x.change(0, last, 0), tilt);
            Check.due("crew 1", x.change(1, 0, 0), Make.TILT_NONE);
            x.crew(rows, 0);
            Check.due("not seated", x.change(1, 0, last), Make.TILT_STATE);
            Check.due("not seated, no such seat", x.change(1, 0, last + 1), Make.TILT_NONE);
        }
    }

    /** "-100001: STATE: .. an ARM is on the wrong side then". */
    private static void changeAndArms() {
        // One who sits on the left only, one on the right only, two on either side.
        DrumBoats x = Make.boat(2, 0, new int[][] {
            {50, 50, 0}, {51, 50, 1}, {52, 50, 2}, {53, 50, 2}});
        x.seat(0);
        int left = -1;
        int right = -1;
        for (int seat = 0; seat < 4; seat++) {
            left = x.sits(0, seat / 2, seat % 2) == 0 ? seat : left;
            right = x.sits(0, seat / 2, seat % 2) == 1 ? seat : right;
        }
        Check.due("the left one sits left", left % 2, 0);
        Check.due("the right one sits right", right % 2, 1);
        for (int one = 0; one < 4; one++) {
            for (int other = 0; other < 4; other++) {
                boolean crosses = one % 2 != other % 2;
                boolean bound = one == left || other == left || one == right || other == right;
                Check.due("change " + one + ", " + other + " is refused",
                        x.change(0, one, other) == Make.TILT_STATE ? 1 : 0,
                        crosses && bound ? 1 : 0);
            }
        }
        Check.due("nobody has moved", x.sits(0, left / 2, left % 2), 0);
    }

    /** A seat that changes with itself leaves all as it is. */
    private static void changeOfOneSeat() {
        DrumBoats x = Make.boat(2, 7, new int[][] {
            {50, 50, 0}, {51, 50, 1}, {52, 50, 0}, {53, 50, 1}});
        int tilt = x.seat(0);
        for (int seat = 0; seat < 4; seat++) {
            Check.due("change " + seat + " with itself", x.change(0, seat, seat), tilt);
        }
    }
}
