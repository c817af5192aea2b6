/**
 * Terms, part 3, and promises 14 to 16 and 19 to 25: each sentence that names a bound has a test of
 * its own, at the bound and on both sides of it.
 */
public final class RaceBoundsTest {
    public static void main(String[] args) {
        restIs0To99();
        restIsTenAtFirst();
        restBarsBothWays();
        restOfTwoCrewsWithACommonMember();
        restBarsByTheFirst();
        restCountsWhenTheRaceIsSet();
        restOfOneLaterInTheDay();
        lanesAre0To3();
        lanesAreTaken();
        crewsWaitOnce();
        crewsWithACommonMemberWait();
        twoWaitAtLeast();
        racesAre24AtMost();
        minuteIs0To999();
        roundIs0To1();
        allTheseAheadOfRest();
        barredOnesWaitOn();
        toldTimeIs1To99999();
        timeAnswersWhatItWas();
        timeOfNobody();
        timeOfOneStruck();
        toldIsOf0To3();
        toldOfNobody();
        placesCountLesserTimes();
        outHasNoPlace();
        againTakesAllTimes();
        againOfOneStruck();
        strikeTellsThePlace();
        strikeOfOneNotInIt();
        struckOnce();
        finalistsAreOf0To9();
        finalistsByPlacesUpToA();
        finalistsOfTwoHeats();
        finalistsByFewerThanB();
        finalistsByBestTimes();
        finalistsOfHeatsAlone();
        finalistsInOrder();
        finalistIsOfTheLatest();
        slackOfTwoRaces();
        slackOfCommonMembers();
        slackIsTheLeast();
        Check.finish("RaceBoundsTest");
    }

    /** "REST: .. (0 .. 99"; "what it was. BAD." */
    private static void restIs0To99() {
        Make.range("rest", 0, 99, Make.BAD, n -> new DrumBoats().rest(n));
        DrumBoats x = new DrumBoats();
        x.rest(0);
        Check.due("refused", x.rest(-1), Make.BAD);
        Check.due("the least", x.rest(99), 0);
        Check.due("refused", x.rest(100), Make.BAD);
        Check.due("the most", x.rest(5), 99);
        Check.due("count(6)", x.count(6), 5);
    }

    /** "10 at first". */
    private static void restIsTenAtFirst() {
        Check.due("count(6)", new DrumBoats().count(6), 10);
        Check.due("what it was", new DrumBoats().rest(10), 10);
        Check.due("9 between", second(Make.crews(2), 109), -10);
        Check.due("10 between", second(Make.crews(2), 110), 1);
        Check.due("11 between", second(Make.crews(2), 111), 1);
    }

    /** Crews 0 and 1 race at minute 100, and again at another one. */
    private static int second(DrumBoats x, int minute) {
        Check.due("the first race", Make.race(x, 100, 0, 0, 1), 0);
        return Make.race(x, minute, 1, 1, 0);
    }

    /** "the least MINUTES between two RACES of one CREW .. a RACE is not set that breaks it". */
    private static void restBarsBothWays() {
        int[] rests = {0, 1, 2, 50, 98, 99};
        for (int rest : rests) {
            for (int by = rest - 1; by <= rest + 1; by++) {
                for (int sign = -1; sign <= 1 && by >= 0; sign += 2) {
                    DrumBoats x = Make.crews(2);
                    x.rest(rest);
                    Check.due("rest " + rest + ", " + sign * by + " behind",
                            second(x, 100 + sign * by), by < rest ? -10 : 1);
                    Check.due("races", x.count(3), by < rest ? 1 : 2);
                }
            }
        }
        // One common crew is enough, in whatever lanes; none is not barred.
        DrumBoats x = Make.crews(6);
        Make.race(x, 100, 0, 0, 1, 2);
        Check.due("one common crew", Make.race(x, 100, 0, 3, 4, -1, 2), -10);
        DrumBoats y = Make.crews(6);
        Make.race(y, 100, 0, 0, 1, 2);
        Check.due("no common crew", Make.race(y, 100, 0, 3, 4, 5), 1);
    }

    /** "or of two CREWS with a common MEMBER". */
    private static void restOfTwoCrewsWithACommonMember() {
        for (int by = 9; by <= 11; by++) {
            DrumBoats x = Make.crews(4);
            Make.paddlers(x, 40);
            x.join(0, 39);
            x.join(2, 39);
            x.join(1, 7);
            x.join(3, 8);
            Make.race(x, 500, 0, 0, 1);
            Check.due(by + " between", Make.race(x, 500 - by, 0, 3, 2), by < 10 ? -10 : 1);
        }
    }

    /** "-10 less the earlier RACE (the first) that REST bars". */
    private static void restBarsByTheFirst() {
        DrumBoats x = Make.crews(6);
        Make.race(x, 100, 0, 0, 1);
        Make.race(x, 300, 0, 2, 3);
        Make.race(x, 305, 0, 4, 5);
        Make.race(x, 315, 0, 2, 3);
        Check.due("races", x.count(3), 4);
        Check.due("race 1 ahead of 2 and 3", Make.race(x, 306, 0, 5, 3), -11);
        Check.due("race 2 ahead of 3", x.race(310, 0), -12);
        Check.due("race 1 ahead of 2", x.race(296, 0), -11);
        Check.due("race 3", x.race(324, 0), -13);
        Check.due("none", x.race(325, 0), 4);
        // The last one of 24 can be barred by the one ahead of it.
        DrumBoats y = Make.crews(4);
        for (int i = 0; i < 22; i++) {
            Make.race(y, 20 * i, 0, 0, 1);
        }
        Make.race(y, 900, 0, 2, 3);
        Check.due("races", y.count(3), 23);
        Check.due("race 22", Make.race(y, 909, 0, 2, 0), -32);
        Check.due("none", y.race(910, 0), 23);
    }

    /** A longer REST breaks no RACE that is set; a shorter one lets in who was barred. */
    private static void restCountsWhenTheRaceIsSet() {
        DrumBoats x = Make.crews(2);
        Check.due("at rest 10", second(x, 110), 1);
        x.rest(99);
        Check.due("both stay", x.count(3), 2);
        Check.due("at rest 99", Make.race(x, 208, 0, 0, 1), -11);
        Check.due("at rest 99", x.race(209, 0), 2);
        x.rest(0);
        Check.due("at rest 0", Make.race(x, 209, 0, 0, 1), 3);
    }

    /** A RACE that was set earlier and comes later in the day bars like the others. */
    private static void restOfOneLaterInTheDay() {
        DrumBoats x = Make.crews(2);
        Make.race(x, 999, 0, 0, 1);
        Check.due("9 ahead", Make.race(x, 990, 0, 0, 1), -10);
        Check.due("10 ahead", x.race(989, 0), 1);
        Check.due("at minute 0", Make.race(x, 0, 0, 0, 1), 2);
    }

    /** "A CREW waits for a LANE (0 .. 3)". */
    private static void lanesAre0To3() {
        Make.range("lane", 0, 3, Make.NONE, n -> Make.crews(1).lane(0, n));
        Make.range("crew that waits", 0, 5, Make.NONE, n -> Make.crews(6).lane(n, 0));
        DrumBoats x = Make.crews(6);
        for (int lane = 0; lane < 4; lane++) {
            Check.due("how many wait", x.lane(lane, 3 - lane), lane + 1);
        }
        Check.due("count(4)", x.count(4), 4);
    }

    /** "STATE: the LANE is taken". */
    private static void lanesAreTaken() {
        DrumBoats x = Make.crews(6);
        for (int lane = 0; lane < 4; lane++) {
            x.lane(lane, lane);
            Check.due("taken", x.lane(4, lane), Make.STATE);
        }
        for (int lane = 0; lane < 4; lane++) {
            Check.due("all are taken", x.lane(5, lane), Make.STATE);
        }
        Check.due("up to 4 lanes", x.lane(5, 4), Make.NONE);
        Check.due("count(4)", x.count(4), 4);
        Check.due("the race", x.race(0, 0), 0);
        for (int lane = 0; lane < 4; lane++) {
            Check.due("who was there first", x.told(0, lane, 0), lane);
        }
        Check.due("the lane is free again", x.lane(5, 0), 1);
    }

    /** "or the CREW .. waits"; "no CREW twice". */
    private static void crewsWaitOnce() {
        DrumBoats x = Make.crews(2);
        x.lane(0, 1);
        for (int lane = 0; lane < 4; lane++) {
            Check.due("waits for lane 1", x.lane(0, lane), Make.STATE);
        }
        Check.due("another one", x.lane(1, 0), 2);
        x.race(0, 0);
        Check.due("does so no more", x.lane(0, 0), 1);
    }

    /** "or one with a MEMBER of it, waits". */
    private static void crewsWithACommonMemberWait() {
        DrumBoats x = Make.crews(3);
        Make.paddlers(x, 24);
        Make.join(x, 0, 0, 8);
        Make.join(x, 1, 7, 8);
        Make.join(x, 2, 15, 8);
        Check.due("waits", x.lane(0, 3), 1);
        Check.due("the last of one is the first of the other", x.lane(1, 0), Make.STATE);
        Check.due("no common member", x.lane(2, 0), 2);
        Check.due("count(4)", x.count(4), 2);
        // The first and the last number of a paddler.
        int[] members = {0, 31, 32, 39};
        for (int member : members) {
            DrumBoats y = Make.crews(2);
            Make.paddlers(y, 40);
            y.join(0, member);
            y.lane(0, 0);
            Check.due("the lane is taken", y.lane(1, 0), Make.STATE);
            y.join(1, member);
            Check.due("common member " + member, y.lane(1, 1), Make.STATE);
        }
        // Crews without members have none in common.
        DrumBoats z = Make.crews(2);
        z.lane(0, 0);
        Check.due("no members at all", z.lane(1, 1), 2);
    }

    /** "STATE: fewer than 2 wait". */
    private static void twoWaitAtLeast() {
        for (int wait = 0; wait <= 4; wait++) {
            DrumBoats x = Make.crews(4);
            for (int c = 0; c < wait; c++) {
                x.lane(c, 3 - c);
            }
            Check.due(wait + " wait", x.race(0, 0), wait < 2 ? Make.STATE : 0);
            Check.due("they wait still, or no more", x.count(4), wait < 2 ? wait : 0);
            Check.due("races", x.count(3), wait < 2 ? 0 : 1);
            for (int lane = 0; lane < 4; lane++) {
                int crew = wait < 2 || 3 - lane >= wait ? Make.NONE : 3 - lane;
                Check.due("lane " + lane, x.told(0, lane, 0), crew);
            }
        }
    }

    /** "RACES are numbered from 0 on, 24 at most". */
    private static void racesAre24AtMost() {
        DrumBoats x = Make.crews(2);
        for (int i = 0; i < 24; i++) {
            Check.due("race " + i + " is not there yet", x.told(i, 0, 0), Make.NONE);
            Check.due("race " + i, Make.race(x, 10 * i, i % 2, 0, 1), i);
            Check.due("race " + i + " is there", x.told(i, 0, 0), 0);
        }
        Check.due("a 25th", Make.race(x, 900, 0, 0, 1), Make.FULL);
        Check.due("they wait on", x.count(4), 2);
        Check.due("races", x.count(3), 24);
        int[] none = {-1, 24, 25, Integer.MIN_VALUE, Integer.MAX_VALUE};
        for (int race : none) {
            Check.due("run " + race, x.run(race, 100), Make.NONE);
            Check.due("time " + race, x.time(race, 0, 5), Make.NONE);
            Check.due("told " + race, x.told(race, 0, 0), Make.NONE);
            Check.due("again " + race, x.again(race), Make.NONE);
            Check.due("strike " + race, x.strike(race, 0), Make.NONE);
        }
        Check.due("time of the last", x.time(23, 0, 5), 0);
        Check.due("strike from the last", x.strike(23, 0), 1);
        Check.due("the last again", x.again(23), 0);
        Check.due("run the last", x.run(23, 100), 0);
    }

    private static DrumBoats twoWait() {
        DrumBoats x = Make.crews(2);
        x.lane(0, 0);
        x.lane(1, 1);
        return x;
    }

    /** "a MINUTE (0 .. 999)". */
    private static void minuteIs0To999() {
        Make.range("minute", 0, 999, Make.BAD, n -> twoWait().race(n, 0));
        DrumBoats x = Make.crews(2);
        Make.race(x, 0, 0, 0, 1);
        Make.race(x, 999, 0, 0, 1);
        Check.due("the longest slack", x.slack(), 999);
    }

    /** "a ROUND (0 heat, 1 final)". */
    private static void roundIs0To1() {
        Make.range("round", 0, 1, Make.BAD, n -> twoWait().race(0, n));
        for (int round = 0; round <= 1; round++) {
            DrumBoats x = twoWait();
            x.race(0, round);
            Make.times(x, 0, 5, 6);
            Check.due("finalists of a heat", x.finalists(1, 0), 1 - round);
            Check.due("points of a final", x.points(0), 600 * round);
        }
    }

    /** "BAD: minute, round; STATE: fewer than 2 wait; FULL (all these ahead of REST)." */
    private static void allTheseAheadOfRest() {
        DrumBoats x = Make.crews(2);
        Check.due("bad minute ahead of state", x.race(-1, 0), Make.BAD);
        Check.due("bad round ahead of state", x.race(0, 2), Make.BAD);
        for (int i = 0; i < 24; i++) {
            Make.race(x, 10 * i, 0, 0, 1);
        }
        Check.due("state ahead of full", x.race(900, 0), Make.STATE);
        x.lane(0, 0);
        Check.due("state of one ahead of full", x.race(5, 0), Make.STATE);
        x.lane(1, 1);
        Check.due("full ahead of rest", x.race(5, 0), Make.FULL);
        Check.due("bad ahead of full", x.race(1000, 0), Make.BAD);
        Check.due("bad ahead of full and rest", x.race(5, -1), Make.BAD);
        DrumBoats y = Make.crews(2);
        Make.race(y, 10, 0, 0, 1);
        Check.due("state ahead of rest", y.race(10, 0), Make.STATE);
        y.lane(0, 0);
        Check.due("state of one ahead of rest", y.race(10, 0), Make.STATE);
        y.lane(1, 2);
        Check.due("bad ahead of rest", y.race(10, 2), Make.BAD);
        Check.due("rest", y.race(10, 1), -10);
    }

    /** "(they wait on)". */
    private static void barredOnesWaitOn() {
        DrumBoats x = Make.crews(3);
        Make.race(x, 10, 0, 0, 1);
        Check.due("barred", Make.race(x, 11, 1, -1, 2, -1, 0), -10);
        Check.due("they wait on", x.count(4), 2);
        Check.due("one race", x.count(3), 1);
        Check.due("no race 1", x.told(1, 1, 0), Make.NONE);
        Check.due("they wait where they did", x.lane(1, 3), Make.STATE);
        Check.due("barred again", x.race(19, 1), -10);
        Check.due("a third comes", x.lane(1, 0), 3);
        Check.due("not barred", x.race(20, 1), 1);
        int[] crews = {1, 2, Make.NONE, 0};
        for (int lane = 0; lane < 4; lane++) {
            Check.due("lane " + lane, x.told(1, lane, 0), crews[lane]);
        }
        Make.times(x, 1, 5, 6, 0, 7);
        Check.due("it is the final that was set", x.points(1), 600);
    }

    /** Crews 0 to 3 in lanes 0 to 3 of race 0. */
    private static DrumBoats oneRace(int round, int... times) {
        DrumBoats x = Make.crews(4);
        Make.race(x, 0, round, 0, 1, 2, 3);
        Make.times(x, 0, times);
        return x;
    }

    /** "A TIME (in hundredths; a told one 1 .. 99999)"; "(0: it is OUT)". */
    private static void toldTimeIs1To99999() {
        Make.range("hundredths", 0, 99999, Make.BAD, n -> oneRace(0).time(0, 0, n));
        DrumBoats x = oneRace(0);
        x.time(0, 0, 0);
        Check.due("0 is no time", x.count(8), 0);
        Check.due("0 has no place", x.told(0, 0, 2), 0);
        x.time(0, 0, 1);
        Check.due("1 is a time", x.count(8), 1);
        Check.due("1 has a place", x.told(0, 0, 2), 1);
        x.time(0, 1, 99999);
        Check.due("99999 is a time", x.told(0, 1, 1), 99999);
        Check.due("99999 has a place", x.told(0, 1, 2), 2);
        Check.due("100000 is none", x.time(0, 1, 100000), Make.BAD);
        Check.due("-1 is none", x.time(0, 1, -1), Make.BAD);
        Check.due("it stays", x.told(0, 1, 1), 99999);
    }

    /** "what it was (0: none, OUT)". */
    private static void timeAnswersWhatItWas() {
        DrumBoats x = oneRace(0);
        Check.due("none", x.time(0, 2, 0), 0);
        Check.due("out", x.time(0, 2, 99999), 0);
        Check.due("a time", x.time(0, 2, 1), 99999);
        Check.due("another time", x.time(0, 2, 1), 1);
        Check.due("the same", x.time(0, 2, 0), 1);
        Check.due("out", x.time(0, 2, 7), 0);
        Check.due("of another lane none", x.time(0, 1, 7), 0);
    }

    /** "NONE (nobody in the LANE, too)". */
    private static void timeOfNobody() {
        DrumBoats x = Make.crews(2);
        Make.race(x, 0, 0, -1, 0, 1);
        int[] none = {-1, 0, 3, 4, Integer.MIN_VALUE, Integer.MAX_VALUE};
        for (int lane : none) {
            Check.due("time in lane " + lane, x.time(0, lane, 5), Make.NONE);
            Check.due("none ahead of bad", x.time(0, lane, -5), Make.NONE);
            Check.due("told of lane " + lane, x.told(0, lane, 1), Make.NONE);
        }
        Check.due("lane 1", x.time(0, 1, 5), 0);
        Check.due("lane 2", x.time(0, 2, 5), 0);
        Check.due("race 1", x.time(1, 1, 5), Make.NONE);
        Check.due("race -1", x.time(-1, 1, 5), Make.NONE);
        Check.due("none ahead of bad", x.time(1, 1, 100000), Make.NONE);
    }

    /** "STATE: it is struck from it." */
    private static void timeOfOneStruck() {
        DrumBoats x = oneRace(0, 5, 6, 7, 8);
        x.strike(0, 1);
        int[] told = {0, 1, 99999};
        for (int hundredths : told) {
            Check.due("struck", x.time(0, 1, hundredths), Make.STATE);
        }
        Check.due("bad ahead of state", x.time(0, 1, -1), Make.BAD);
        Check.due("bad ahead of state", x.time(0, 1, 100000), Make.BAD);
        Check.due("no time", x.told(0, 1, 1), 0);
        Check.due("the one beside", x.time(0, 2, 1), 7);
    }

    /** "what 0 the CREW, 1 its TIME (0: none), 2 its PLACE (0: none), 3 how far it had gone". */
    private static void toldIsOf0To3() {
        Make.range("what of told", 0, 3, Make.NONE, n -> oneRace(0).told(0, 0, n));
        DrumBoats x = oneRace(0, 0, 8);
        int[][] due = {{0, 0, 0, 0}, {1, 8, 1, 0}, {2, 0, 0, 0}, {3, 0, 0, 0}};
        for (int lane = 0; lane < 4; lane++) {
            for (int what = 0; what < 4; what++) {
                Check.due("told(0, " + lane + ", " + what + ")", x.told(0, lane, what),
                        due[lane][what]);
            }
        }
    }

    /** "NONE: nobody." */
    private static void toldOfNobody() {
        DrumBoats x = Make.crews(2);
        Make.race(x, 0, 0, 1, -1, 0);
        for (int what = -1; what <= 4; what++) {
            boolean is = what >= 0 && what <= 3;
            Check.due("somebody, what " + what, x.told(0, 0, what) >= 0 ? 1 : 0, is ? 1 : 0);
            Check.due("nobody, what " + what, x.told(0, 1, what), Make.NONE);
            Check.due("lane 4, what " + what, x.told(0, 4, what), Make.NONE);
            Check.due("lane -1, what " + what, x.told(0, -1, what), Make.NONE);
            Check.due("race 1, what " + what, x.told(1, 0, what), Make.NONE);
            Check.due("race -1, what " + what, x.told(-1, 0, what), Make.NONE);
        }
    }

    private static void placesAre(DrumBoats x, int... places) {
        for (int lane = 0; lane < places.length; lane++) {
            Check.due("place in lane " + lane, x.told(0, lane, 2), places[lane]);
        }
    }

    /** "PLACES of a RACE: 1 and how many had a lesser TIME". */
    private static void placesCountLesserTimes() {
        placesAre(oneRace(0, 1, 2, 3, 4), 1, 2, 3, 4);
        placesAre(oneRace(0, 4, 3, 2, 1), 4, 3, 2, 1);
        placesAre(oneRace(0, 7, 7, 7, 7), 1, 1, 1, 1);
        placesAre(oneRace(0, 7, 7, 8, 8), 1, 1, 3, 3);
        placesAre(oneRace(0, 8, 7, 7, 7), 4, 1, 1, 1);
        placesAre(oneRace(0, 8, 7, 8, 7), 3, 1, 3, 1);
        placesAre(oneRace(0, 99999, 99998, 1, 2), 4, 3, 1, 2);
    }

    /** "those that are OUT, or have no TIME, have none". */
    private static void outHasNoPlace() {
        placesAre(oneRace(0), 0, 0, 0, 0);
        placesAre(oneRace(0, 0, 0, 0, 0), 0, 0, 0, 0);
        placesAre(oneRace(0, 0, 9, 0, 8), 0, 2, 0, 1);
        placesAre(oneRace(0, 9), 1, 0, 0, 0);
        DrumBoats x = oneRace(0, 1, 2, 3, 4);
        x.strike(0, 0);
        placesAre(x, 0, 1, 2, 3);
        x.time(0, 1, 0);
        placesAre(x, 0, 0, 1, 2);
        x.strike(0, 3);
        placesAre(x, 0, 0, 1, 0);
        x.strike(0, 2);
        placesAre(x, 0, 0, 0, 0);
    }

    /** "all its TIMES go (it may be RUN again): how many went. NONE." */
    private static void againTakesAllTimes() {
        for (int times = 0; times <= 4; times++) {
            DrumBoats x = oneRace(0);
            for (int lane = 0; lane < times; lane++) {
                x.time(0, lane, 5 + lane);
            }
            Make.race(x, 50, 0, 0, 1);
            x.time(1, 0, 3);
            Check.due("how many went", x.again(0), times);
            Check.due("those of the other race stay", x.count(8), 1);
            Check.due("none goes twice", x.again(0), 0);
            for (int lane = 0; lane < 4; lane++) {
                Check.due("no time", x.told(0, lane, 1), 0);
                Check.due("the crew stays", x.told(0, lane, 0), lane);
            }
            Check.due("it may be run", x.run(0, 100), 0);
            Check.due("the other may not", x.run(1, 100), Make.STATE);
        }
        Make.range("race to have again", 0, 0, Make.NONE, n -> oneRace(0, 5).again(n));
    }

    /** "(It has no TIME, and can't have one there any more.)" */
    private static void againOfOneStruck() {
        DrumBoats x = oneRace(0, 5, 6, 7, 0);
        x.strike(0, 1);
        Check.due("how many went: not the struck one's, nor who is out", x.again(0), 2);
        Check.due("struck still", x.time(0, 1, 5), Make.STATE);
        Check.due("struck still", x.strike(0, 1), Make.STATE);
        Check.due("not the others", x.time(0, 0, 5), 0);
    }

    /** "its PLACE ahead of that (0: none)". */
    private static void strikeTellsThePlace() {
        int[][] times = {{1, 2, 3, 4}, {4, 3, 2, 1}, {5, 5, 5, 5}, {0, 0, 0, 0}, {0, 3, 0, 3}};
        int[][] places = {{1, 2, 3, 4}, {4, 3, 2, 1}, {1, 1, 1, 1}, {0, 0, 0, 0}, {0, 1, 0, 1}};
        for (int i = 0; i < times.length; i++) {
            for (int crew = 0; crew < 4; crew++) {
                DrumBoats x = oneRace(0, times[i]);
                Check.due("place of crew " + crew, x.strike(0, crew), places[i][crew]);
                Check.due("none then", x.told(0, crew, 2), 0);
                Check.due("no time then", x.told(0, crew, 1), 0);
            }
        }
    }

    /** "NONE: it is not in it". */
    private static void strikeOfOneNotInIt() {
        DrumBoats x = Make.crews(6);
        Make.race(x, 0, 0, 1, 4);
        int[] none = {-1, 0, 2, 3, 5, 6, Integer.MIN_VALUE, Integer.MAX_VALUE};
        for (int crew : none) {
            Check.due("crew " + crew, x.strike(0, crew), Make.NONE);
        }
        Check.due("no race", x.strike(1, 1), Make.NONE);
        Check.due("no race", x.strike(-1, 1), Make.NONE);
        Check.due("crew 1", x.strike(0, 1), 0);
        Check.due("crew 4", x.strike(0, 4), 0);
    }

    /** "STATE: it is struck." */
    private static void struckOnce() {
        DrumBoats x = oneRace(0, 1, 2, 3, 4);
        Make.race(x, 50, 0, 0, 1);
        x.time(1, 0, 9);
        Check.due("struck", x.strike(0, 0), 1);
        Check.due("struck twice", x.strike(0, 0), Make.STATE);
        Check.due("not from the other race", x.told(1, 0, 1), 9);
        Check.due("struck there too", x.strike(1, 0), 1);
        Check.due("the next one", x.strike(0, 1), 1);
        // A struck one is in its lane still, and rests.
        Check.due("its lane", x.told(0, 0, 0), 0);
        Check.due("its rest", Make.race(x, 9, 0, 0, 1), -10);
    }

    /** "BAD: a or b not 0 .. 9." */
    private static void finalistsAreOf0To9() {
        Make.range("a", 0, 9, Make.BAD, n -> oneRace(0, 1).finalists(n, 0));
        Make.range("b", 0, 9, Make.BAD, n -> oneRace(0, 1).finalists(0, n));
        Make.range("both", 0, 9, Make.BAD, n -> oneRace(0, 1).finalists(n, n));
    }

    private static void finalistsAre(DrumBoats x, int a, int b, int... crews) {
        String call = "finalists(" + a + ", " + b + ")";
        Check.due(call, x.finalists(a, b), crews.length);
        for (int i = 0; i < crews.length; i++) {
            Check.due(call + ": " + i, x.finalist(i), crews[i]);
        }
        Check.due(call + ": none behind them", x.finalist(crews.length), Make.NONE);
        Check.due(call + ": none ahead of them", x.finalist(-1), Make.NONE);
    }

    /** "of each heat, by numbers, all CREWS with a PLACE up to a". */
    private static void finalistsByPlacesUpToA() {
        DrumBoats x = oneRace(0, 1, 2, 3, 4);
        finalistsAre(x, 0, 0);
        finalistsAre(x, 1, 0, 0);
        finalistsAre(x, 2, 0, 0, 1);
        finalistsAre(x, 3, 0, 0, 1, 2);
        finalistsAre(x, 4, 0, 0, 1, 2, 3);
        finalistsAre(x, 5, 0, 0, 1, 2, 3);
        finalistsAre(x, 9, 0, 0, 1, 2, 3);
        // Like times have like places: all of them, or none.
        DrumBoats y = oneRace(0, 1, 2, 2, 4);
        finalistsAre(y, 1, 0, 0);
        finalistsAre(y, 2, 0, 0, 1, 2);
        finalistsAre(y, 3, 0, 0, 1, 2);
        finalistsAre(y, 4, 0, 0, 1, 2, 3);
        DrumBoats z = oneRace(0, 0, 5, 0, 5);
        finalistsAre(z, 9, 9, 1, 3);
        finalistsAre(z, 1, 0, 1, 3);
        finalistsAre(z, 0, 1, 1, 3);
        finalistsAre(z, 0, 0);
    }

    /** A CREW that has its place in one heat is a finalist once, by its best time. */
    private static void finalistsOfTwoHeats() {
        DrumBoats x = oneRace(0, 10, 20, 30, 40);
        Make.race(x, 50, 0, 3, 2, 1, 0);
        Make.times(x, 1, 11, 21, 31, 41);
        finalistsAre(x, 1, 0, 0, 3);
        finalistsAre(x, 2, 0, 0, 3, 1, 2);
        finalistsAre(x, 1, 1, 0, 3, 1);
        finalistsAre(x, 1, 2, 0, 3, 1, 2);
    }

    /** "of all other CREWS .. those of which fewer than b others of these had a lesser best TIME". */
    private static void finalistsByFewerThanB() {
        DrumBoats x = oneRace(0, 10, 20, 30, 40);
        finalistsAre(x, 0, 1, 0);
        finalistsAre(x, 0, 2, 0, 1);
        finalistsAre(x, 0, 3, 0, 1, 2);
        finalistsAre(x, 0, 4, 0, 1, 2, 3);
        finalistsAre(x, 0, 9, 0, 1, 2, 3);
        // Who has a place up to a is not of the others.
        finalistsAre(x, 1, 1, 0, 1);
        finalistsAre(x, 2, 1, 0, 1, 2);
        finalistsAre(x, 3, 1, 0, 1, 2, 3);
        finalistsAre(x, 4, 1, 0, 1, 2, 3);
        // Of like ones all, or none.
        DrumBoats y = oneRace(0, 10, 20, 20, 30);
        finalistsAre(y, 0, 1, 0);
        finalistsAre(y, 0, 2, 0, 1, 2);
        finalistsAre(y, 0, 3, 0, 1, 2);
        finalistsAre(y, 0, 4, 0, 1, 2, 3);
        DrumBoats z = oneRace(0, 20, 20, 20, 20);
        finalistsAre(z, 0, 1, 0, 1, 2, 3);
        finalistsAre(z, 0, 0);
        // The least and the longest times that can be told.
        DrumBoats w = oneRace(0, 99999, 2, 1, 99998);
        finalistsAre(w, 0, 1, 2);
        finalistsAre(w, 0, 2, 2, 1);
        finalistsAre(w, 0, 3, 2, 1, 3);
        finalistsAre(w, 0, 4, 2, 1, 3, 0);
    }

    /** "(A CREW's best TIME: the least in heats.)" */
    private static void finalistsByBestTimes() {
        DrumBoats x = Make.crews(4);
        Make.race(x, 0, 0, 0, 1);
        Make.times(x, 0, 50, 60);
        Make.race(x, 50, 0, 1, 2);
        Make.times(x, 1, 49, 55);
        finalistsAre(x, 0, 1, 1);
        x.time(1, 0, 50);
        finalistsAre(x, 0, 1, 0, 1);
        x.time(1, 0, 51);
        finalistsAre(x, 0, 1, 0);
        x.time(1, 0, 0);
        finalistsAre(x, 0, 2, 0, 2);
        x.strike(0, 1);
        finalistsAre(x, 0, 9, 0, 2);
        finalistsAre(x, 9, 9, 0, 2);
    }

    /** "a heats' list (all RACES of ROUND 0)". */
    private static void finalistsOfHeatsAlone() {
        DrumBoats x = oneRace(1, 1, 2, 3, 4);
        finalistsAre(x, 9, 9);
        Make.race(x, 50, 0, 3, 2);
        finalistsAre(x, 9, 9);
        Make.times(x, 1, 70, 80);
        finalistsAre(x, 9, 9, 3, 2);
        finalistsAre(x, 1, 0, 3);
    }

    /** "in the order of their best TIMES, of like ones by numbers". */
    private static void finalistsInOrder() {
        DrumBoats x = Make.crews(6);
        Make.race(x, 0, 0, 5, 4, 3);
        Make.times(x, 0, 30, 20, 20);
        Make.race(x, 50, 0, 2, 1, 0);
        Make.times(x, 1, 20, 30, 10);
        finalistsAre(x, 9, 0, 0, 2, 3, 4, 1, 5);
        finalistsAre(x, 0, 9, 0, 2, 3, 4, 1, 5);
        // By place and by time, in one order.
        finalistsAre(x, 1, 1, 0, 2, 3, 4);
        Check.due("all six, and none behind", x.finalists(9, 9), 6);
        Make.range("finalist", 0, 5, Make.NONE, n -> x.finalist(n));
    }

    /** "FINALIST i of the latest finalists() that was not refused. NONE." */
    private static void finalistIsOfTheLatest() {
        DrumBoats x = oneRace(0, 1, 2, 3, 4);
        Check.due("ahead of all", x.finalist(0), Make.NONE);
        Check.due("refused", x.finalists(10, 0), Make.BAD);
        Check.due("ahead of all still", x.finalist(0), Make.NONE);
        x.finalists(2, 0);
        Check.due("the latest", x.finalist(1), 1);
        Check.due("none behind", x.finalist(2), Make.NONE);
        Check.due("refused", x.finalists(0, -1), Make.BAD);
        Check.due("the latest still", x.finalist(1), 1);
        x.time(0, 0, 9);
        Check.due("as it was then", x.finalist(0), 0);
        x.finalists(1, 0);
        Check.due("the latest of one", x.finalist(0), 1);
        Check.due("none behind", x.finalist(1), Make.NONE);
        x.finalists(0, 0);
        Check.due("the latest of none", x.finalist(0), Make.NONE);
    }

    /** "The least MINUTES between two RACES of one CREW .. NONE: there are no two such." */
    private static void slackOfTwoRaces() {
        DrumBoats x = Make.crews(6);
        Check.due("no race", x.slack(), Make.NONE);
        Make.race(x, 100, 0, 0, 1);
        Check.due("one race", x.slack(), Make.NONE);
        Make.race(x, 100, 0, 2, 3);
        Check.due("two of different crews", x.slack(), Make.NONE);
        Make.race(x, 110, 1, 5, 3);
        Check.due("two of one crew", x.slack(), 10);
        // In both directions, down to none.
        for (int minute = 98; minute <= 102; minute++) {
            DrumBoats y = Make.crews(3);
            y.rest(0);
            Make.race(y, 100, 0, 0, 1);
            Make.race(y, minute, 0, 2, -1, 1);
            Check.due("slack to " + minute, y.slack(), Math.abs(minute - 100));
        }
    }

    /** "or of CREWS with common MEMBERS". */
    private static void slackOfCommonMembers() {
        DrumBoats x = Make.crews(4);
        Make.paddlers(x, 40);
        Make.race(x, 100, 0, 0, 1);
        Make.race(x, 103, 0, 2, 3);
        x.join(1, 39);
        x.join(2, 38);
        Check.due("no common member", x.slack(), Make.NONE);
        x.join(3, 39);
        Check.due("a common member", x.slack(), 3);
        // Two crews of one race are no two races.
        DrumBoats y = Make.crews(2);
        Make.paddlers(y, 1);
        Make.race(y, 100, 0, 0, 1);
        y.join(0, 0);
        y.join(1, 0);
        Check.due("one race of two such", y.slack(), Make.NONE);
    }

    private static void slackIsTheLeast() {
        DrumBoats x = Make.crews(4);
        x.rest(0);
        Make.race(x, 500, 0, 0, 1);
        Make.race(x, 400, 0, 0, 2);
        Check.due("100", x.slack(), 100);
        Make.race(x, 450, 0, 2, 3);
        Check.due("50: the later of the first two is no such", x.slack(), 50);
        Make.race(x, 449, 0, 1, 0);
        Check.due("49", x.slack(), 49);
        Make.race(x, 449, 0, 3, 0);
        Check.due("none", x.slack(), 0);
        Make.race(x, 460, 0, 3, 0);
        Check.due("none still", x.slack(), 0);
    }
}
