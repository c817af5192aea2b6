/**
 * Terms, part 4, and promises 17, 18 and 20: each sentence about a RACE that is RUN which names a
 * bound has a test of its own, at the bound and on both sides of it.
 */
public final class RunBoundsTest {
    public static void main(String[] args) {
        currentIsUpTo9();
        currentIsOfItsLane();
        distanceIs100To2000();
        runKnowsItsRaces();
        runOnceOnly();
        aToldTimeBarsTheRun();
        onlySeatedOnesGo();
        struckOnesDoNotGo();
        thereAtTheDistance();
        timeIsCut();
        strengthTimesFreshIsCutForEach();
        lossIsATenthOfTheTilt();
        noLossOfATiltBelowNothing();
        driveLessLossIsOneAtLeast();
        togetherOneAtLeast();
        freshIs200AtLeast();
        freshOfTheSlowestBeat();
        beatIsThatOfTheRun();
        strokesAre2000AtMost();
        longestAndShortestTimes();
        howManyAreThere();
        wayOfTheLastStroke();
        Check.finish("RunBoundsTest");
    }

    /** A crew of two rows, alike in weight, that sits without a tilt but for the drummer's. */
    private static int crewOf(DrumBoats x, int drummer, int... strengths) {
        int crew = x.crew(strengths.length / 2, drummer);
        for (int strength : strengths) {
            x.join(crew, x.paddler(50, strength, 2, 0, 20));
        }
        x.seat(crew);
        return crew;
    }

    /** Crew 0 of four in lane 0 of race 0, beside an empty crew; with a beat and a current. */
    private static DrumBoats alone(int drummer, int beat, int current, int... strengths) {
        DrumBoats x = new DrumBoats();
        crewOf(x, drummer, strengths);
        x.crew(2, 0);
        x.beat(0, beat);
        x.current(0, current);
        Make.race(x, 0, 0, 0, 1);
        return x;
    }

    private static void goes(String what, DrumBoats x, int distance, int time, int way) {
        Check.due(what + ": how many are there", x.run(0, distance), time > 0 ? 1 : 0);
        Check.due(what + ": time", x.told(0, 0, 1), time);
        Check.due(what + ": way", x.told(0, 0, 3), way);
    }

    /** "the LANE's CURRENT (-9 .. 9)"; "(0 at first): what it was. -100: NONE; -101: BAD." */
    private static void currentIsUpTo9() {
        DrumBoats x = new DrumBoats();
        int was = 0;
        for (int c = -9; c <= 9; c++) {
            Check.due("current " + c, x.current(0, c), was);
            was = c;
        }
        int[] bad = {-10, 10, -11, 11, 256, Integer.MIN_VALUE, Integer.MAX_VALUE};
        for (int c : bad) {
            Check.due("current " + c, x.current(0, c), -101);
        }
        Check.due("it stays", x.current(0, -9), 9);
        Check.due("bad", x.current(0, -10), -101);
        Check.due("it stays", x.current(0, 0), -9);
        int[] none = {-1, 4, 5, Integer.MIN_VALUE, Integer.MAX_VALUE};
        for (int lane : none) {
            Check.due("lane " + lane, x.current(lane, 0), -100);
            Check.due("none ahead of bad", x.current(lane, 10), -100);
        }
    }

    private static void currentIsOfItsLane() {
        DrumBoats x = new DrumBoats();
        for (int lane = 0; lane < 4; lane++) {
            Check.due("at first", x.current(lane, lane - 2), 0);
        }
        for (int lane = 0; lane < 4; lane++) {
            Check.due("of lane " + lane, x.current(lane, 0), lane - 2);
        }
        // 4 * 99 * 9 = 3564, and each lane's own current.
        DrumBoats y = new DrumBoats();
        int[] currents = {-9, 9, -1, 1};
        for (int lane = 0; lane < 4; lane++) {
            y.beat(crewOf(y, 0, 99, 99, 99, 99), 9);
            y.current(lane, currents[lane]);
        }
        Make.race(y, 0, 0, 0, 1, 2, 3);
        Check.due("all are there", y.run(0, 100), 4);
        for (int lane = 0; lane < 4; lane++) {
            Check.due("way in lane " + lane, y.told(0, lane, 3), 3564 + currents[lane]);
        }
    }

    /** "A RACE is RUN by DISTANCE (100 .. 2000)". */
    private static void distanceIs100To2000() {
        Make.range("distance", 100, 2000, Make.BAD, n -> alone(0, 9, 0, 9, 9, 9, 9).run(0, n));
        // Refused, it was not run.
        DrumBoats x = alone(0, 9, 0, 9, 9, 9, 9);
        Check.due("99", x.run(0, 99), Make.BAD);
        Check.due("2001", x.run(0, 2001), Make.BAD);
        Check.due("no way", x.told(0, 0, 3), 0);
        Check.due("100", x.run(0, 100), 1);
    }

    /** "NONE; BAD: distance; STATE". */
    private static void runKnowsItsRaces() {
        DrumBoats x = alone(0, 9, 0, 9, 9, 9, 9);
        int[] none = {-1, 1, 24, Integer.MIN_VALUE, Integer.MAX_VALUE};
        for (int race : none) {
            Check.due("run " + race, x.run(race, 100), Make.NONE);
            Check.due("none ahead of bad", x.run(race, 99), Make.NONE);
        }
        x.run(0, 100);
        Check.due("bad ahead of state", x.run(0, 99), Make.BAD);
        Check.due("bad ahead of state", x.run(0, 2001), Make.BAD);
        Check.due("state", x.run(0, 100), Make.STATE);
    }

    /** "STATE: .. or it was RUN." */
    private static void runOnceOnly() {
        DrumBoats x = alone(0, 9, 0, 9, 9, 9, 9);
        Make.race(x, 50, 0, 0, 1);
        Check.due("run", x.run(0, 100), 1);
        int time = x.told(0, 0, 1);
        Check.due("run again", x.run(0, 200), Make.STATE);
        Check.due("the time stays", x.told(0, 0, 1), time);
        Check.due("the other race", x.run(1, 200), 1);
        x.again(0);
        Check.due("had again", x.run(0, 100), 1);
        Check.due("the same time", x.told(0, 0, 1), time);
        Check.due("run again", x.run(0, 100), Make.STATE);
        x.time(0, 0, 0);
        Check.due("out since, but run", x.run(0, 100), Make.STATE);
        // Though nobody was there.
        DrumBoats y = Make.crews(2);
        Make.race(y, 0, 0, 0, 1);
        Check.due("nobody is seated", y.run(0, 100), 0);
        Check.due("it was run", y.run(0, 100), Make.STATE);
        y.again(0);
        Check.due("had again", y.run(0, 100), 0);
    }

    /** "STATE: a TIME was told of it" - a told TIME is 1 .. 99999, 0 is none. */
    private static void aToldTimeBarsTheRun() {
        int[] told = {-1, 0, 1, 2, 99999, 100000};
        for (int hundredths : told) {
            for (int lane = 0; lane < 2; lane++) {
                DrumBoats x = alone(0, 9, 0, 9, 9, 9, 9);
                x.time(0, lane, hundredths);
                boolean bars = hundredths >= 1 && hundredths <= 99999;
                Check.due("told " + hundredths + " in lane " + lane, x.run(0, 100),
                        bars ? Make.STATE : 1);
                x.again(0);
                Check.due("had again", x.run(0, 100), 1);
            }
        }
        DrumBoats x = alone(0, 9, 0, 9, 9, 9, 9);
        x.time(0, 0, 5);
        x.time(0, 0, 0);
        Check.due("a time was told, and is gone", x.run(0, 100), Make.STATE);
    }

    /** "for all its CREWS (SEATED ones; others are OUT)". */
    private static void onlySeatedOnesGo() {
        DrumBoats x = new DrumBoats();
        crewOf(x, 0, 9, 9, 9, 9);
        crewOf(x, 0, 9, 9, 9, 9);
        x.paddler(50, 9, 2, 0, 20);
        Make.race(x, 0, 0, 0, 1);
        x.join(1, 8);
        Check.due("one is seated", x.run(0, 100), 1);
        Check.due("the other is out", x.told(0, 1, 1), 0);
        Check.due("and was not run", x.told(0, 1, 3), 0);
        Check.due("it has no place", x.told(0, 1, 2), 0);
        x.again(0);
        x.seat(1);
        Check.due("both are seated", x.run(0, 100), 2);
        Check.due("as fast", x.told(0, 1, 1), x.told(0, 0, 1));
        // Who is out may be told a time then.
        x.again(0);
        x.paddler(50, 9, 2, 0, 20);
        x.join(1, 9);
        x.run(0, 100);
        Check.due("out", x.time(0, 1, 7), 0);
        Check.due("told", x.told(0, 1, 2), 1);
    }

    private static void struckOnesDoNotGo() {
        DrumBoats x = new DrumBoats();
        crewOf(x, 0, 9, 9, 9, 9);
        crewOf(x, 0, 9, 9, 9, 9);
        Make.race(x, 0, 0, 0, 1);
        x.strike(0, 0);
        Check.due("one is struck", x.run(0, 100), 1);
        Check.due("it has no time", x.told(0, 0, 1), 0);
        Check.due("the other has", x.told(0, 1, 2), 1);
        x.strike(0, 1);
        x.again(0);
        Check.due("both are struck", x.run(0, 100), 0);
    }

    /** "It is there when it has gone DISTANCE times 10 or more". */
    private static void thereAtTheDistance() {
        // Beat 2: FRESH is 1000, 996, 992, ..: 200 at first, then each 25 is cut to 24: 192.
        // 200 and 4 * 192 are 968; the sixth stroke leads from there to 1160.
        goes("beyond", alone(0, 2, 0, 25, 25, 25, 25), 100, 500 + 3200 / 192, 1160);
        // One stroke that leads just there, one more and one less: 111 * 9 and 0 .. 2.
        int[] nearly = {28, 28, 28, 27};
        goes("one less", alone(0, 9, 0, nearly), 100, 100 + 100 / (9 * (25 * 3 + 24)), 999 + 891);
        goes("just there", alone(0, 9, 1, nearly), 100, 100, 1000);
        goes("one more", alone(0, 9, 2, nearly), 100, 99, 1001);
    }

    /** "what was still to go then, times 100, by how far this STROKE led (cut)". */
    private static void timeIsCut() {
        // The first stroke leads to 1000 and more: 100000 by that.
        int[][] strongAndTime = {{99, 28}, {50, 55}, {30, 92}, {28, 99}};
        for (int[] s : strongAndTime) {
            int led = 36 * s[0];
            goes("strength " + s[0], alone(0, 9, 0, s[0], s[0], s[0], s[0]), 100, s[1], led);
            Check.due("as it is told", 100000 / led, s[1]);
        }
        // Just there at the second stroke: 100 and all of the stroke, 100.
        // 4 * 50 * 3 = 600, then FRESH 991: 4 * 49 * 3 = 588.
        goes("second stroke", alone(0, 3, 0, 50, 50, 50, 50), 100, 100 + 40000 / 588, 1188);
        goes("a current in both", alone(0, 3, 9, 50, 50, 50, 50), 100, 100 + 39100 / 597, 1206);
    }

    /** "STRENGTH times FRESH, by 1000 (each cut), times BEAT". */
    private static void strengthTimesFreshIsCutForEach() {
        // FRESH 999 cuts each 1 to 0: 4, then 1 at least a stroke: 4 and 996.
        goes("beat 1", alone(0, 1, 0, 1, 1, 1, 1), 100, 100 * 996 + 100, 1000);
        // 36, then 1 a stroke: 36 and 964.
        goes("beat 9", alone(0, 9, 0, 1, 1, 1, 1), 100, 100 * 964 + 100, 1000);
        // FRESH 999: 1 * 999 / 1000 = 0, 2 * 999 / 1000 = 1: (1 + 1 + 1 + 2), then 1 a stroke
        // as long as FRESH is 500 and more, and then 1 at least.
        goes("one of two", alone(0, 1, 0, 1, 1, 1, 2), 100, 100 * 995 + 100, 1000);
    }

    /** All of weight 50 but for one, who is heavier: 4 for its lean, and the pitch. */
    private static DrumBoats tilted(int drummer, int heavier) {
        DrumBoats x = new DrumBoats();
        x.crew(2, drummer);
        for (int p = 0; p < 4; p++) {
            x.join(0, x.paddler(p == 0 ? 50 + heavier : 50, 99, 2, 0, 20));
        }
        x.crew(2, 0);
        x.beat(0, 9);
        Make.race(x, 0, 0, 0, 1);
        return x;
    }

    /** "LOSS is TILT of its SEATING .. by 10, cut". */
    private static void lossIsATenthOfTheTilt() {
        int[][] drummerHeavierTiltLoss = {
            {0, 0, 0, 0}, {4, 0, 8, 0}, {3, 1, 9, 0}, {5, 0, 10, 1}, {4, 1, 11, 1},
            {8, 1, 19, 1}, {10, 0, 20, 2}, {9, 1, 21, 2}, {150, 0, 300, 30}, {148, 1, 299, 29},
        };
        for (int[] d : drummerHeavierTiltLoss) {
            DrumBoats x = tilted(d[0], d[1]);
            Check.due("tilt", x.seat(0), d[2]);
            goes("tilt " + d[2], x, 100, 100000 / (3564 - d[3]), 3564 - d[3]);
        }
    }

    /** "(0 if that is below 0)". */
    private static void noLossOfATiltBelowNothing() {
        int[] drummers = {0, 15, 19, 20, 21, 24, 25};
        for (int drummer : drummers) {
            DrumBoats x = tilted(drummer, 0);
            x.like(0, 1, 1);
            x.like(2, 3, 1);
            int tilt = 2 * drummer - 40;
            Check.due("tilt", x.seat(0), tilt);
            int loss = drummer == 25 ? 1 : 0;
            goes("tilt " + tilt, x, 100, 100000 / (3564 - loss), 3564 - loss);
        }
        // The likes are those of the run.
        DrumBoats x = tilted(25, 0);
        x.like(0, 1, 1);
        x.like(2, 3, 1);
        x.seat(0);
        x.like(0, 1, 0);
        goes("likes of the run", x, 100, 100000 / (3564 - 3), 3564 - 3);
    }

    /** "it goes DRIVE less LOSS (1 at least) and the LANE's CURRENT". */
    private static void driveLessLossIsOneAtLeast() {
        // LOSS is 30. Behind the first stroke each strength of 8 or 7 is cut: 1 at least then.
        // With a current of 9 that is 10 a stroke.
        goes("drive 33", alone(150, 1, 9, 9, 8, 8, 8), 100, 9900 + 800 / 10, 1002);
        goes("drive 32", alone(150, 1, 9, 8, 8, 8, 8), 100, 9900 + 900 / 10, 1001);
        goes("drive 31", alone(150, 1, 9, 8, 8, 8, 7), 100, 10000, 1000);
        goes("drive 30", alone(150, 1, 9, 8, 8, 7, 7), 100, 10000, 1000);
        goes("drive 29", alone(150, 1, 9, 8, 7, 7, 7), 100, 10000, 1000);
        goes("drive 4", alone(150, 1, 9, 1, 1, 1, 1), 100, 10000, 1000);
    }

    /** "together farther, 1 at least". */
    private static void togetherOneAtLeast() {
        // The first stroke drives 8, each other one 1.
        goes("8 - 9", alone(0, 2, -9, 1, 1, 1, 1), 100, 100 * 999 + 100, 1000);
        goes("8 - 8", alone(0, 2, -8, 1, 1, 1, 1), 100, 100 * 999 + 100, 1000);
        goes("8 - 7", alone(0, 2, -7, 1, 1, 1, 1), 100, 100 * 999 + 100, 1000);
        goes("8 - 6", alone(0, 2, -6, 1, 1, 1, 1), 100, 100 * 998 + 100, 1000);
        goes("8 - 1, 1 - 1", alone(0, 2, -1, 1, 1, 1, 1), 100, 100 * 993 + 100, 1000);
        goes("8, 1", alone(0, 2, 0, 1, 1, 1, 1), 100, 100 * 992 + 100, 1000);
        // 9 and 2 a stroke: 9 and 2 * 495 are 999, and one more stroke goes to 1001.
        goes("8 + 1, 1 + 1", alone(0, 2, 1, 1, 1, 1, 1), 100, 100 * 496 + 50, 1001);
    }

    /** "then each seat's FRESH is BEAT times BEAT less (200 at least)". */
    private static void freshIs200AtLeast() {
        // Beat 9: FRESH 1000, 919, 838, 757, 676, 595, 514, 433, 352, 271, and 200 ever after:
        // strengths of 5 are 5, 4, 4, 3, 3, 2, 2, 2, 1, 1 and 1.
        int way = 36 * (5 + 4 + 4 + 3 + 3 + 2 + 2 + 2 + 1 + 1);
        int more = (20000 - way + 35) / 36;
        int before = way + 36 * (more - 1);
        goes("strengths of 5", alone(0, 9, 0, 5, 5, 5, 5), 2000,
                100 * (10 + more - 1) + (20000 - before) * 100 / 36, before + 36);
        // Strengths of 4 are 4, 3, 3, 3, 2, 2, 2, 1, 1, 1 and then 0: 1 at least.
        int weakWay = 36 * (4 + 3 + 3 + 3 + 2 + 2 + 2 + 1 + 1 + 1);
        goes("strengths of 4", alone(0, 9, 0, 4, 4, 4, 4), 200,
                100 * (10 + 2000 - weakWay - 1) + 100, 2000);
    }

    private static void freshOfTheSlowestBeat() {
        // Beat 1: FRESH is 1000 less the strokes ahead, 200 behind stroke 800 and ever after.
        int way = 0;
        int strokes = 0;
        int led = 0;
        while (way < 12000) {
            int fresh = strokes < 800 ? 1000 - strokes : 200;
            led = 4 * (5 * fresh / 1000);
            way += led;
            strokes++;
        }
        Check.holds("it is a long way: " + strokes, strokes < 2000 && strokes > 800);
        goes("slowly", alone(0, 1, 0, 5, 5, 5, 5), 1200,
                100 * (strokes - 1) + (12000 - way + led) * 100 / led, way);
    }

    /** BEAT is that which the crew has when it is run; LANES and likes, too. */
    private static void beatIsThatOfTheRun() {
        DrumBoats x = alone(0, 1, 0, 99, 99, 99, 99);
        x.beat(0, 9);
        x.current(0, 9);
        goes("nine", x, 100, 100000 / 3573, 3573);
        x.again(0);
        x.beat(0, 3);
        x.current(0, -9);
        goes("three", x, 100, 100000 / 1179, 1179);
        x.beat(0, 1);
        Check.due("what was run stays", x.told(0, 0, 3), 1179);
    }

    /** "2000 STROKES at most, then OUT". */
    private static void strokesAre2000AtMost() {
        // 12 and a current at the first stroke, 1 at each other one.
        goes("there at stroke 1999", alone(0, 3, 0, 1, 1, 1, 1), 201, 100 * 1998 + 100, 2010);
        goes("there at stroke 2000", alone(0, 3, -1, 1, 1, 1, 1), 201, 100 * 1999 + 100, 2010);
        goes("not there at stroke 2000", alone(0, 3, -2, 1, 1, 1, 1), 201, 0, 2009);
        DrumBoats x = alone(0, 3, -2, 1, 1, 1, 1);
        x.run(0, 201);
        Check.due("out: no place", x.told(0, 0, 2), 0);
        Check.due("out: no time", x.count(8), 0);
        Check.due("out: told", x.time(0, 0, 9), 0);
        Check.due("told since: place", x.told(0, 0, 2), 1);
        Check.due("the way stays", x.told(0, 0, 3), 2009);
        // Two a stroke: 12 + 1, and 1999 times 2.
        goes("two a stroke", alone(0, 3, 1, 1, 1, 1, 1), 401, 100 * 1999 + 50, 4011);
        goes("two a stroke, too far", alone(0, 3, 1, 1, 1, 1, 1), 402, 0, 4011);
        goes("the longest distance", alone(0, 3, 0, 1, 1, 1, 1), 2000, 0, 2011);
    }

    private static void longestAndShortestTimes() {
        // The shortest there is: eight of 99 at beat 9 with a current of 9, less nothing.
        DrumBoats x = new DrumBoats();
        int crew = crewOf(x, 0, 99, 99, 99, 99, 99, 99, 99, 99);
        x.crew(2, 0);
        x.beat(crew, 9);
        x.current(0, 9);
        Make.race(x, 0, 0, 0, 1);
        goes("the shortest", x, 100, 100000 / 7137, 7137);
        // The longest is more than one that can be told, and stays so.
        DrumBoats y = alone(0, 3, -1, 1, 1, 1, 1);
        y.run(0, 201);
        Check.due("the longest", y.told(0, 0, 1), 200000);
        Check.due("its place", y.told(0, 0, 2), 1);
        Check.due("another is told", y.time(0, 1, 99999), 0);
        Check.due("its place then", y.told(0, 0, 2), 2);
        Check.due("what it was", y.time(0, 0, 99999), 200000);
        Check.due("its place at last", y.told(0, 0, 2), 1);
    }

    /** "A RACE is RUN: how many are there." */
    private static void howManyAreThere() {
        for (int strong = 0; strong <= 4; strong++) {
            DrumBoats x = new DrumBoats();
            for (int crew = 0; crew < 4; crew++) {
                int strength = crew < strong ? 99 : 1;
                crewOf(x, 0, strength, strength, strength, strength);
            }
            Make.race(x, 0, 0, 0, 1, 2, 3);
            Check.due(strong + " strong ones", x.run(0, 2000), strong);
            Check.due("times", x.count(8), strong);
            Check.due("again", x.again(0), strong);
        }
    }

    /** "3 how far it had gone at the end of its last STROKE (0: it was not RUN)". */
    private static void wayOfTheLastStroke() {
        DrumBoats x = alone(0, 9, 0, 99, 99, 99, 99);
        Check.due("not run", x.told(0, 0, 3), 0);
        x.time(0, 0, 5);
        Check.due("told only", x.told(0, 0, 3), 0);
        x.again(0);
        x.run(0, 100);
        Check.due("run", x.told(0, 0, 3), 3564);
        x.time(0, 0, 5);
        Check.due("run, and told since", x.told(0, 0, 3), 3564);
        x.time(0, 0, 0);
        Check.due("run, and out since", x.told(0, 0, 3), 3564);
        x.strike(0, 0);
        Check.due("run, and struck since", x.told(0, 0, 3), 3564);
        x.again(0);
        Check.due("not as if it had been", x.told(0, 0, 3), 0);
    }
}
