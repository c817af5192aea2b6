/**
 * Regattas of drum boats: seatings, rules of classes, races, finals, levels of lanes and points.
 *
 * <p>All rows are made with the object and used again, so that no call makes an object.
 * Words in capitals are those of the document.
 */
public final class DrumBoats {
    public static final int NONE = -1, BAD = -2, STATE = -3, FULL = -4;
    public static final long NO = Long.MIN_VALUE;

    /** NONE and STATE of the calls whose answer may be any small number below 0. */
    private static final int TILT_NONE = -100000, TILT_STATE = -100001;
    private static final int CURRENT_NONE = -100, CURRENT_BAD = -101;
    /** FAULTS and barring RACES are told as this less their number. */
    private static final int FAULTS_FROM = -10;

    private static final int MOST_PADDLERS = 40, MOST_CREWS = 6, MOST_MEMBERS = 8, MOST_SEATS = 8;
    private static final int MOST_RULES = 6, MOST_TESTS = 8, MOST_BYTES = 120;
    private static final int MOST_RACES = 24, LANES = 4;
    private static final int FINAL = 1;
    private static final int NOBODY = -1;
    private static final int[] PLACE_POINTS = {10, 8, 6, 5, 4, 3};

    private final Roster roster = new Roster();
    private final Crew[] crews = new Crew[MOST_CREWS];
    private int crewCount = 0;
    private final Trim balance = new Trim();
    private final SeatSearch search = new SeatSearch();

    private final Tape tape = new Tape();
    private final Rule[] rules = new Rule[MOST_RULES];
    private int ruleCount = 0;
    private final int[] tallies = new int[Tape.FIELDS];

    private int restMinutes = 10;
    private final int[] waiting = {NOBODY, NOBODY, NOBODY, NOBODY};
    private final int[] currents = new int[LANES];
    private final Race[] races = new Race[MOST_RACES];
    private int raceCount = 0;
    private final Course course = new Course();
    private final FinalList finals = new FinalList();

    public DrumBoats() {
        for (int i = 0; i < MOST_CREWS; i++) {
            crews[i] = new Crew();
        }
        for (int i = 0; i < MOST_RULES; i++) {
            rules[i] = new Rule();
        }
        for (int i = 0; i < MOST_RACES; i++) {
            races[i] = new Race();
        }
    }

    // ---- paddlers, crews

    public int paddler(int weight, int strength, int arm, int sex, int age) {
        if (!within(weight, 30, 150) || !within(strength, 1, 99) || !within(arm, 0, 2)
                || !within(sex, 0, 1) || !within(age, 10, 90)) {
            return BAD;
        }
        if (roster.size >= MOST_PADDLERS) {
            return FULL;
        }
        return roster.add(weight, strength, arm, sex, age);
    }

    public int like(int a, int b, int is) {
        if (!roster.has(a) || !roster.has(b)) {
            return NONE;
        }
        if (!within(is, 0, 1) || a == b) {
            return BAD;
        }
        int was = roster.areFriends(a, b) ? 1 : 0;
        roster.setFriends(a, b, is == 1);
        return was;
    }

    public int crew(int rows, int drummer) {
        if (!within(rows, 2, 4) || !within(drummer, 0, 150)) {
            return BAD;
        }
        if (crewCount >= MOST_CREWS) {
            return FULL;
        }
        crews[crewCount].rows = rows;
        crews[crewCount].drummer = drummer;
        crewCount++;
        return crewCount - 1;
    }

    public int join(int crew, int paddler) {
        if (!isCrew(crew) || !roster.has(paddler)) {
            return NONE;
        }
        Crew joined = crews[crew];
        if (joined.hasMember(paddler)) {
            return STATE;
        }
        if (joined.memberCount >= MOST_MEMBERS) {
            return FULL;
        }
        joined.addMember(paddler);
        return joined.memberCount;
    }

    public int beat(int crew, int n) {
        if (!isCrew(crew)) {
            return NONE;
        }
        if (!within(n, 1, 9)) {
            return BAD;
        }
        int was = crews[crew].drumBeat;
        crews[crew].drumBeat = n;
        return was;
    }

    public int seat(int crew) {
        if (!isCrew(crew)) {
            return TILT_NONE;
        }
        Crew sought = crews[crew];
        sought.seated = search.find(roster, sought);
        if (!sought.seated) {
            return TILT_STATE;
        }
        search.copyBestTo(sought);
        return search.leastTilt;
    }

    public int sits(int crew, int row, int side) {
        if (!isCrew(crew) || !within(row, 0, crews[crew].rows - 1) || !within(side, 0, 1)
                || !crews[crew].seated) {
            return NONE;
        }
        return crews[crew].seats[2 * row + side];
    }

    public int trim(int crew, int what) {
        if (!isCrew(crew) || !within(what, 0, 3)) {
            return NONE;
        }
        if (!crews[crew].seated) {
            return STATE;
        }
        balance.weigh(roster, crews[crew]);
        switch (what) {
            case 0:
                return balance.lean;
            case 1:
                return balance.pitch;
            case 2:
                return balance.middle;
            default:
                return balance.friends;
        }
    }

    public int change(int crew, int seat, int other) {
        if (!isCrew(crew)) {
            return TILT_NONE;
        }
        Crew changed = crews[crew];
        int last = changed.seatCount() - 1;
        if (!within(seat, 0, last) || !within(other, 0, last)) {
            return TILT_NONE;
        }
        if (!changed.seated || !roster.maySit(changed.seats[seat], other % 2)
                || !roster.maySit(changed.seats[other], seat % 2)) {
            return TILT_STATE;
        }
        changed.swapSeats(seat, other);
        balance.weigh(roster, changed);
        changed.swapSeats(seat, other);
        return balance.tilt();
    }

    // ---- rules

    public int feed(long w, int n) {
        if (!within(n, 1, 8)) {
            return BAD;
        }
        if (tape.size + n > MOST_BYTES) {
            return FULL;
        }
        tape.append(w, n);
        return tape.size;
    }

    public int rule() {
        if (ruleCount >= MOST_RULES) {
            return FULL;
        }
        boolean whole = tape.readInto(rules[ruleCount]);
        tape.size = 0;
        if (!whole) {
            return FAULTS_FROM - tape.at;
        }
        ruleCount++;
        return ruleCount - 1;
    }

    public int keeps(int crew, int rule) {
        if (!isCrew(crew) || !within(rule, 0, ruleCount - 1)) {
            return NONE;
        }
        if (!crews[crew].seated) {
            return STATE;
        }
        tallySeated(crews[crew]);
        return rules[rule].holds(tallies) ? 1 : 0;
    }

    // ---- races

    public int rest(int minutes) {
        if (!within(minutes, 0, 99)) {
            return BAD;
        }
        int was = restMinutes;
        restMinutes = minutes;
        return was;
    }

    public int lane(int crew, int lane) {
        if (!isCrew(crew) || !isLane(lane)) {
            return NONE;
        }
        if (waiting[lane] != NOBODY || isMetByOneOf(waiting, crew)) {
            return STATE;
        }
        waiting[lane] = crew;
        return howManyWait();
    }

    public int race(int minute, int round) {
        if (!within(minute, 0, 999) || !within(round, 0, 1)) {
            return BAD;
        }
        if (howManyWait() < 2) {
            return STATE;
        }
        if (raceCount >= MOST_RACES) {
            return FULL;
        }
        races[raceCount].set(minute, round, waiting);
        int barring = firstBarring(raceCount);
        if (barring != NONE) {
            return FAULTS_FROM - barring;
        }
        for (int lane = 0; lane < LANES; lane++) {
            waiting[lane] = NOBODY;
        }
        raceCount++;
        return raceCount - 1;
    }

    public int current(int lane, int c) {
        if (!isLane(lane)) {
            return CURRENT_NONE;
        }
        if (!within(c, -9, 9)) {
            return CURRENT_BAD;
        }
        int was = currents[lane];
        currents[lane] = c;
        return was;
    }

    public int run(int race, int distance) {
        if (!isRace(race)) {
            return NONE;
        }
        if (!within(distance, 100, 2000)) {
            return BAD;
        }
        Race started = races[race];
        if (started.begun) {
            return STATE;
        }
        started.begun = true;
        for (int lane = 0; lane < LANES; lane++) {
            if (started.crews[lane] != NOBODY && !started.struck[lane]) {
                goDown(started, lane, distance);
            }
        }
        return started.timeCount();
    }

    public int time(int race, int lane, int hundredths) {
        if (!isRace(race) || !isLane(lane) || races[race].crews[lane] == NOBODY) {
            return NONE;
        }
        if (!within(hundredths, 0, 99999)) {
            return BAD;
        }
        Race timed = races[race];
        if (timed.struck[lane]) {
            return STATE;
        }
        int was = timed.times[lane];
        timed.times[lane] = hundredths;
        // A told 0 is no TIME: it does not keep the RACE from being RUN.
        timed.begun = timed.begun || hundredths > 0;
        return was;
    }

    public int told(int race, int lane, int what) {
        if (!isRace(race) || !isLane(lane) || races[race].crews[lane] == NOBODY) {
            return NONE;
        }
        switch (what) {
            case 0:
                return races[race].crews[lane];
            case 1:
                return races[race].times[lane];
            case 2:
                return races[race].placeOf(lane);
            case 3:
                return races[race].gone[lane];
            default:
                return NONE;
        }
    }

    public int again(int race) {
        if (!isRace(race)) {
            return NONE;
        }
        int went = races[race].timeCount();
        races[race].forgetTimes();
        return went;
    }

    public int strike(int race, int crew) {
        if (!isRace(race) || !isCrew(crew)) {
            return NONE;
        }
        Race protested = races[race];
        int lane = protested.laneOf(crew);
        if (lane == NOBODY) {
            return NONE;
        }
        if (protested.struck[lane]) {
            return STATE;
        }
        int place = protested.placeOf(lane);
        protested.struck[lane] = true;
        protested.times[lane] = 0;
        return place;
    }

    public int finalists(int a, int b) {
        if (!within(a, 0, 9) || !within(b, 0, 9)) {
            return BAD;
        }
        finals.choose(races, raceCount, a, b);
        return finals.size;
    }

    public int finalist(int i) {
        return within(i, 0, finals.size - 1) ? finals.list[i] : NONE;
    }

    public int slack() {
        int least = NONE;
        for (int i = 0; i < raceCount; i++) {
            for (int j = 0; j < i; j++) {
                int minutes = races[i].minutesTo(races[j]);
                if ((least == NONE || minutes < least) && racesMeet(races[i], races[j])) {
                    least = minutes;
                }
            }
        }
        return least;
    }

    // ---- lanes, points

    public long level(int first, int second, int part) {
        if (!isLane(first) || !isLane(second) || first == second || !within(part, 0, 1)) {
            return NO;
        }
        long sum = 0;
        long both = 0;
        for (int crew = 0; crew < crewCount; crew++) {
            int inFirst = leastTimeIn(first, crew);
            int inSecond = leastTimeIn(second, crew);
            if (inFirst > 0 && inSecond > 0) {
                sum += inFirst - inSecond;
                both++;
            }
        }
        long divisor = commonDivisor(Math.abs(sum), both);
        if (both == 0 || divisor == 0) {
            return NO;
        }
        return part == 0 ? sum / divisor : both / divisor;
    }

    public int points(int crew) {
        return isCrew(crew) ? pointsOf(crew) : NONE;
    }

    public int table(int i) {
        for (int crew = 0; crew < crewCount; crew++) {
            if (crewsAheadOf(crew) == i) {
                return crew;
            }
        }
        return NONE;
    }

    public int count(int what) {
        switch (what) {
            case 0:
                return roster.size;
            case 1:
                return crewCount;
            case 2:
                return ruleCount;
            case 3:
                return raceCount;
            case 4:
                return howManyWait();
            case 5:
                return tape.size;
            case 6:
                return restMinutes;
            case 7:
                return howManyAreSeated();
            case 8:
                return howManyTimes();
            default:
                return NONE;
        }
    }

    // ---- what several calls ask

    private static boolean within(int number, int least, int most) {
        return number >= least && number <= most;
    }

    private static boolean isLane(int lane) {
        return within(lane, 0, LANES - 1);
    }

    private boolean isCrew(int crew) {
        return within(crew, 0, crewCount - 1);
    }

    private boolean isRace(int race) {
        return within(race, 0, raceCount - 1);
    }

    private void tallySeated(Crew crew) {
        for (int field = 0; field < Tape.FIELDS; field++) {
            tallies[field] = 0;
        }
        for (int seat = 0; seat < crew.seatCount(); seat++) {
            int paddler = crew.seats[seat];
            tallies[roster.sex[paddler] == 0 ? Tape.MEN : Tape.WOMEN]++;
            tallies[Tape.OLD] += roster.age[paddler] >= 40 ? 1 : 0;
            tallies[Tape.YOUNG] += roster.age[paddler] < 18 ? 1 : 0;
            tallies[Tape.WEIGHT] += roster.weight[paddler];
            tallies[Tape.CREW]++;
        }
    }

    private int howManyWait() {
        int wait = 0;
        for (int lane = 0; lane < LANES; lane++) {
            wait += waiting[lane] != NOBODY ? 1 : 0;
        }
        return wait;
    }

    private int howManyAreSeated() {
        int seated = 0;
        for (int crew = 0; crew < crewCount; crew++) {
            seated += crews[crew].seated ? 1 : 0;
        }
        return seated;
    }

    private int howManyTimes() {
        int times = 0;
        for (int race = 0; race < raceCount; race++) {
            times += races[race].timeCount();
        }
        return times;
    }

    /** Whether a crew, or one with a member of it, is in one of the lanes. */
    private boolean isMetByOneOf(int[] lanes, int crew) {
        for (int lane = 0; lane < LANES; lane++) {
            int other = lanes[lane];
            if (other != NOBODY && (other == crew
                    || (crews[other].memberBits & crews[crew].memberBits) != 0)) {
                return true;
            }
        }
        return false;
    }

    private boolean racesMeet(Race one, Race other) {
        for (int lane = 0; lane < LANES; lane++) {
            if (one.crews[lane] != NOBODY && isMetByOneOf(other.crews, one.crews[lane])) {
                return true;
            }
        }
        return false;
    }

    private int firstBarring(int race) {
        for (int earlier = 0; earlier < race; earlier++) {
            if (races[race].minutesTo(races[earlier]) < restMinutes
                    && racesMeet(races[race], races[earlier])) {
                return earlier;
            }
        }
        return NONE;
    }

    private void goDown(Race race, int lane, int distance) {
        Crew crew = crews[race.crews[lane]];
        if (!crew.seated) {
            return;
        }
        balance.weigh(roster, crew);
        int loss = Math.max(0, balance.tilt()) / 10;
        course.paddle(roster, crew, loss, currents[lane], 10 * distance);
        race.times[lane] = course.hundredths;
        race.gone[lane] = course.gone;
    }

    /** The least time of a crew in a lane, of all races; 0 if it has none. */
    private int leastTimeIn(int lane, int crew) {
        int least = 0;
        for (int race = 0; race < raceCount; race++) {
            int hundredths = races[race].crews[lane] == crew ? races[race].times[lane] : 0;
            if (hundredths > 0 && (least == 0 || hundredths < least)) {
                least = hundredths;
            }
        }
        return least;
    }

    private static long commonDivisor(long a, long b) {
        long larger = a;
        long smaller = b;
        for (int turn = 0; turn < 200 && smaller != 0; turn++) {
            long left = larger % smaller;
            larger = smaller;
            smaller = left;
        }
        return larger;
    }

    private int pointsOf(int crew) {
        int sixtieths = 0;
        for (int race = 0; race < raceCount; race++) {
            int lane = races[race].round == FINAL ? races[race].laneOf(crew) : NOBODY;
            sixtieths += lane != NOBODY ? races[race].pointsIn(lane) : 0;
        }
        return sixtieths;
    }

    private int crewsAheadOf(int crew) {
        int own = pointsOf(crew);
        int ahead = 0;
        for (int other = 0; other < crewCount; other++) {
            int theirs = pointsOf(other);
            ahead += theirs > own || (theirs == own && other < crew) ? 1 : 0;
        }
        return ahead;
    }

    /** All paddlers, and who likes whom. */
    private static final class Roster {
        int size = 0;
        final int[] weight = new int[MOST_PADDLERS];
        final int[] strength = new int[MOST_PADDLERS];
        final int[] arm = new int[MOST_PADDLERS];
        final int[] sex = new int[MOST_PADDLERS];
        final int[] age = new int[MOST_PADDLERS];
        /** Of each paddler a bit for each one whom it likes. */
        final long[] friendBits = new long[MOST_PADDLERS];

        boolean has(int paddler) {
            return within(paddler, 0, size - 1);
        }

        int add(int itsWeight, int itsStrength, int itsArm, int itsSex, int itsAge) {
            weight[size] = itsWeight;
            strength[size] = itsStrength;
            arm[size] = itsArm;
            sex[size] = itsSex;
            age[size] = itsAge;
            size++;
            return size - 1;
        }

        boolean areFriends(int a, int b) {
            return (friendBits[a] >>> b & 1L) != 0;
        }

        void setFriends(int a, int b, boolean are) {
            long bitOfA = 1L << a;
            long bitOfB = 1L << b;
            friendBits[a] = are ? friendBits[a] | bitOfB : friendBits[a] & ~bitOfB;
            friendBits[b] = are ? friendBits[b] | bitOfA : friendBits[b] & ~bitOfA;
        }

        /** Arm 0 may not sit on side 1, nor arm 1 on side 0; arm 2 sits on both. */
        boolean maySit(int paddler, int side) {
            return arm[paddler] != 1 - side;
        }
    }

    /** A boat, its members and, while it is seated, who sits where. */
    private static final class Crew {
        int rows = 2;
        int drummer = 0;
        int drumBeat = 4;
        int memberCount = 0;
        final int[] members = new int[MOST_MEMBERS];
        /** A bit for each paddler who is a member. */
        long memberBits = 0L;
        boolean seated = false;
        /** The paddlers by seats (2 row and side); only to be read while seated. */
        final int[] seats = new int[MOST_SEATS];

        int seatCount() {
            return 2 * rows;
        }

        boolean hasMember(int paddler) {
            return (memberBits >>> paddler & 1L) != 0;
        }

        void addMember(int paddler) {
            members[memberCount] = paddler;
            memberCount++;
            memberBits |= 1L << paddler;
            seated = false;
        }

        void swapSeats(int one, int other) {
            int moved = seats[one];
            seats[one] = seats[other];
            seats[other] = moved;
        }

        /** How much a weight in a row counts for the pitch. */
        int pitchFactor(int row) {
            return 2 * row - (rows - 1);
        }

        /** How much a strength in a row counts for the middle. */
        int middleFactor(int row) {
            return Math.min(row, rows - 1 - row);
        }

        int drummerPitch() {
            return -rows * drummer;
        }
    }

    /** The parts of the tilt of a seating. */
    private static final class Trim {
        static final int LEAN_FACTOR = 4, FRIENDS_BONUS = 20;

        int lean = 0;
        int pitch = 0;
        int middle = 0;
        int friends = 0;

        void weigh(Roster roster, Crew crew) {
            int toLeft = 0;
            int toBack = crew.drummerPitch();
            middle = 0;
            friends = 0;
            for (int row = 0; row < crew.rows; row++) {
                int left = crew.seats[2 * row];
                int right = crew.seats[2 * row + 1];
                toLeft += roster.weight[left] - roster.weight[right];
                toBack += (roster.weight[left] + roster.weight[right]) * crew.pitchFactor(row);
                middle += (roster.strength[left] + roster.strength[right]) * crew.middleFactor(row);
                friends += roster.areFriends(left, right) ? 1 : 0;
            }
            lean = Math.abs(toLeft);
            pitch = Math.abs(toBack);
        }

        int tilt() {
            return LEAN_FACTOR * lean + pitch - middle - FRIENDS_BONUS * friends;
        }
    }

    /**
     * Tries the seatings of a crew, lesser members first, so that of several best ones the first
     * that comes is the due one. Leaves out a beginning that can't lead to a lesser tilt.
     */
    private static final class SeatSearch {
        int leastTilt = 0;
        private boolean found = false;
        private int seats = 0;
        private int members = 0;
        private final int[] weight = new int[MOST_MEMBERS];
        private final int[] strength = new int[MOST_MEMBERS];
        private final int[] arm = new int[MOST_MEMBERS];
        /** Of each member a bit for each member whom it likes. */
        private final int[] friendBits = new int[MOST_MEMBERS];
        private final int[] pitchFactor = new int[MOST_SEATS];
        private final int[] middleFactor = new int[MOST_SEATS];
        private final int[] chosen = new int[MOST_SEATS];
        private final int[] best = new int[MOST_SEATS];
        /** What the seats from each one on can add to lean, pitch and gain. */
        private final int[] leanLow = new int[MOST_SEATS + 1];
        private final int[] leanHigh = new int[MOST_SEATS + 1];
        private final int[] pitchLow = new int[MOST_SEATS + 1];
        private final int[] pitchHigh = new int[MOST_SEATS + 1];
        private final int[] gainHigh = new int[MOST_SEATS + 1];

        boolean find(Roster roster, Crew crew) {
            found = false;
            leastTilt = 0;
            seats = Math.min(crew.seatCount(), MOST_SEATS);
            members = Math.min(crew.memberCount, MOST_MEMBERS);
            if (members < seats) {
                return false;
            }
            loadMembers(roster, crew);
            loadBounds(crew);
            fillFrom(this, 0, 0, 0, crew.drummerPitch(), 0);
            return found;
        }

        void copyBestTo(Crew crew) {
            for (int seat = 0; seat < seats; seat++) {
                crew.seats[seat] = crew.members[best[seat]];
            }
        }

        private void loadMembers(Roster roster, Crew crew) {
            for (int m = 0; m < members; m++) {
                int paddler = crew.members[m];
                weight[m] = roster.weight[paddler];
                strength[m] = roster.strength[paddler];
                arm[m] = roster.arm[paddler];
                friendBits[m] = 0;
                for (int other = 0; other < members; other++) {
                    if (roster.areFriends(paddler, crew.members[other])) {
                        friendBits[m] |= 1 << other;
                    }
                }
            }
        }

        private void loadBounds(Crew crew) {
            int lightest = weight[0];
            int heaviest = weight[0];
            int strongest = strength[0];
            int anyFriends = 0;
            for (int m = 0; m < members; m++) {
                lightest = Math.min(lightest, weight[m]);
                heaviest = Math.max(heaviest, weight[m]);
                strongest = Math.max(strongest, strength[m]);
                anyFriends |= friendBits[m];
            }
            int bonus = anyFriends != 0 ? Trim.FRIENDS_BONUS : 0;
            leanLow[seats] = 0;
            leanHigh[seats] = 0;
            pitchLow[seats] = 0;
            pitchHigh[seats] = 0;
            gainHigh[seats] = 0;
            for (int seat = seats - 1; seat >= 0; seat--) {
                int row = seat / 2;
                boolean isLeft = seat % 2 == 0;
                int factor = crew.pitchFactor(row);
                pitchFactor[seat] = factor;
                middleFactor[seat] = crew.middleFactor(row);
                leanLow[seat] = leanLow[seat + 1] + (isLeft ? lightest : -heaviest);
                leanHigh[seat] = leanHigh[seat + 1] + (isLeft ? heaviest : -lightest);
                pitchLow[seat] = pitchLow[seat + 1] + factor * (factor < 0 ? heaviest : lightest);
                pitchHigh[seat] = pitchHigh[seat + 1] + factor * (factor < 0 ? lightest : heaviest);
                gainHigh[seat] = gainHigh[seat + 1] + strongest * middleFactor[seat]
                        + (isLeft ? 0 : bonus);
            }
        }

        /** Lean and pitch have their signs here; gain is what lessens the tilt. */
        private static void fillFrom(SeatSearch s, int seat, int used, int lean, int pitch,
                int gain) {
            if (s.found && s.leastFrom(seat, lean, pitch, gain) >= s.leastTilt) {
                return;
            }
            if (seat >= s.seats) {
                s.keepChosen(Trim.LEAN_FACTOR * Math.abs(lean) + Math.abs(pitch) - gain);
                return;
            }
            int side = seat % 2;
            for (int m = 0; m < s.members; m++) {
                if ((used >>> m & 1) == 0 && s.arm[m] != 1 - side) {
                    s.chosen[seat] = m;
                    fillFrom(s, seat + 1, used | 1 << m,
                            side == 0 ? lean + s.weight[m] : lean - s.weight[m],
                            pitch + s.weight[m] * s.pitchFactor[seat], gain + s.gainOf(seat, m));
                }
            }
        }

        private int gainOf(int seat, int member) {
            int gain = strength[member] * middleFactor[seat];
            boolean besideFriend = seat % 2 == 1
                    && (friendBits[member] >>> chosen[seat - 1] & 1) != 0;
            return besideFriend ? gain + Trim.FRIENDS_BONUS : gain;
        }

        /** A tilt below which no seating that goes on from here can come. */
        private int leastFrom(int seat, int lean, int pitch, int gain) {
            return Trim.LEAN_FACTOR * leastSize(lean + leanLow[seat], lean + leanHigh[seat])
                    + leastSize(pitch + pitchLow[seat], pitch + pitchHigh[seat])
                    - gain - gainHigh[seat];
        }

        private static int leastSize(int low, int high) {
            if (low > 0) {
                return low;
            }
            return high < 0 ? -high : 0;
        }

        private void keepChosen(int tilt) {
            found = true;
            leastTilt = tilt;
            for (int seat = 0; seat < seats; seat++) {
                best[seat] = chosen[seat];
            }
        }
    }

    /** Tests joined by and and or, in the order of the text. */
    private static final class Rule {
        int tests = 0;
        final boolean[] negated = new boolean[MOST_TESTS];
        final int[] field = new int[MOST_TESTS];
        final int[] sign = new int[MOST_TESTS];
        final int[] number = new int[MOST_TESTS];
        /** Whether or, not and, stands ahead of a test. */
        final boolean[] orAhead = new boolean[MOST_TESTS];

        boolean holds(int[] tallies) {
            boolean any = false;
            boolean all = true;
            for (int test = 0; test < tests; test++) {
                if (orAhead[test]) {
                    any = any || all;
                    all = true;
                }
                all = all && testHolds(test, tallies[field[test]]);
            }
            return any || all;
        }

        private boolean testHolds(int test, int tally) {
            boolean plain;
            switch (sign[test]) {
                case '<':
                    plain = tally < number[test];
                    break;
                case '=':
                    plain = tally == number[test];
                    break;
                default:
                    plain = tally > number[test];
                    break;
            }
            return plain != negated[test];
        }
    }

    /** The bytes fed, and the reading of a rule from them. */
    private static final class Tape {
        static final int MEN = 0, WOMEN = 1, OLD = 2, YOUNG = 3, WEIGHT = 4, CREW = 5, FIELDS = 6;
        private static final int NOT = 6, OR = 7, AND = 8;
        private static final int LONGEST_WORD = 6, MOST_DIGITS = 4;

        int size = 0;
        /** How far the reading went: after one that failed, the fault. */
        int at = 0;
        private final int[] bytes = new int[MOST_BYTES];

        void append(long w, int n) {
            for (int left = n - 1; left >= 0 && size < MOST_BYTES; left--) {
                bytes[size] = (int) (w >>> (8 * left) & 255L);
                size++;
            }
        }

        boolean readInto(Rule rule) {
            at = 0;
            rule.tests = 0;
            rule.orAhead[0] = false;
            for (int test = 0; test < MOST_TESTS; test++) {
                if (!readTest(rule, test)) {
                    return false;
                }
                rule.tests = test + 1;
                if (at >= size) {
                    return true;
                }
                if (test + 1 >= MOST_TESTS || !readJoint(rule, test + 1)) {
                    return false;
                }
            }
            return false;
        }

        private boolean readJoint(Rule rule, int ahead) {
            if (!readBlank()) {
                return false;
            }
            int joint = readWord(OR, AND);
            rule.orAhead[ahead] = joint == OR;
            return joint != NONE && readBlank();
        }

        private boolean readTest(Rule rule, int test) {
            int word = readWord(MEN, NOT);
            rule.negated[test] = word == NOT;
            if (word == NOT) {
                word = readBlank() ? readWord(MEN, CREW) : NONE;
            }
            if (word == NONE) {
                return false;
            }
            rule.field[test] = word;
            return readSign(rule, test) && readNumber(rule, test);
        }

        private boolean readSign(Rule rule, int test) {
            int sign = peek();
            if (sign != '<' && sign != '=' && sign != '>') {
                return false;
            }
            rule.sign[test] = sign;
            at++;
            return true;
        }

        private boolean readNumber(Rule rule, int test) {
            int number = 0;
            int digits = 0;
            while (digits < MOST_DIGITS && within(peek(), '0', '9')) {
                number = 10 * number + (peek() - '0');
                digits++;
                at++;
            }
            rule.number[test] = number;
            return digits > 0;
        }

        private boolean readBlank() {
            if (peek() != ' ') {
                return false;
            }
            at++;
            return true;
        }

        /** The byte that comes next, NONE behind the last one. */
        private int peek() {
            return at < size ? bytes[at] : NONE;
        }

        /** Which of the words first .. last comes; NONE, with at where the last of them fails. */
        private int readWord(int first, int last) {
            int fitting = -1;
            for (int place = 0; place < LONGEST_WORD; place++) {
                int still = 0;
                for (int word = first; word <= last; word++) {
                    if ((fitting >>> word & 1) != 0 && hasSign(wordOf(word), place, peek())) {
                        still |= 1 << word;
                    }
                }
                if (still == 0) {
                    return NONE;
                }
                at++;
                fitting = still;
                for (int word = first; word <= last; word++) {
                    if ((fitting >>> word & 1) != 0 && wordOf(word).length() == place + 1) {
                        return word;
                    }
                }
            }
            return NONE;
        }

        private static boolean hasSign(String word, int place, int sign) {
            return place < word.length() && word.charAt(place) == sign;
        }

        /** None of these is the beginning of another one, as readWord needs. */
        private static String wordOf(int word) {
            switch (word) {
                case MEN:
                    return "men";
                case WOMEN:
                    return "women";
                case OLD:
                    return "old";
                case YOUNG:
                    return "young";
                case WEIGHT:
                    return "weight";
                case CREW:
                    return "crew";
                case NOT:
                    return "not";
                case OR:
                    return "or";
                default:
                    return "and";
            }
        }
    }

    /** Who goes in which lane, and how they came in. */
    private static final class Race {
        int minute = 0;
        int round = 0;
        /** Whether it was run or a time was told, since it was set or was to be had again. */
        boolean begun = false;
        final int[] crews = new int[LANES];
        /** 0 where a crew has none, or is out. */
        final int[] times = new int[LANES];
        final int[] gone = new int[LANES];
        final boolean[] struck = new boolean[LANES];

        void set(int itsMinute, int itsRound, int[] crewsByLanes) {
            minute = itsMinute;
            round = itsRound;
            for (int lane = 0; lane < LANES; lane++) {
                crews[lane] = crewsByLanes[lane];
            }
        }

        void forgetTimes() {
            begun = false;
            for (int lane = 0; lane < LANES; lane++) {
                times[lane] = 0;
                gone[lane] = 0;
            }
        }

        int minutesTo(Race other) {
            return Math.abs(minute - other.minute);
        }

        int laneOf(int crew) {
            for (int lane = 0; lane < LANES; lane++) {
                if (crews[lane] == crew) {
                    return lane;
                }
            }
            return NOBODY;
        }

        int timeCount() {
            int timed = 0;
            for (int lane = 0; lane < LANES; lane++) {
                timed += times[lane] > 0 ? 1 : 0;
            }
            return timed;
        }

        int placeOf(int lane) {
            if (times[lane] == 0) {
                return 0;
            }
            int place = 1;
            for (int other = 0; other < LANES; other++) {
                place += times[other] > 0 && times[other] < times[lane] ? 1 : 0;
            }
            return place;
        }

        /** In sixtieths, which any number of lanes can share without a rest. */
        int pointsIn(int lane) {
            int place = placeOf(lane);
            if (place == 0) {
                return 0;
            }
            int sharers = 0;
            int shared = 0;
            for (int other = 0; other < LANES; other++) {
                int next = place - 1 + sharers;
                if (times[other] == times[lane] && next < PLACE_POINTS.length) {
                    shared += PLACE_POINTS[next];
                    sharers++;
                }
            }
            return sharers == 0 ? 0 : 60 * shared / sharers;
        }
    }

    /** A crew on its way down a lane, stroke by stroke. */
    private static final class Course {
        private static final int MOST_STROKES = 2000, FRESH_FIRST = 1000, FRESH_LEAST = 200;

        /** 0 if it never came there. */
        int hundredths = 0;
        int gone = 0;

        void paddle(Roster roster, Crew crew, int loss, int current, int goal) {
            int fresh = FRESH_FIRST;
            int drive = driveOf(roster, crew, fresh);
            hundredths = 0;
            gone = 0;
            for (int ahead = 0; ahead < MOST_STROKES && gone < goal; ahead++) {
                int step = Math.max(1, Math.max(1, drive - loss) + current);
                if (gone + step >= goal) {
                    hundredths = 100 * ahead + (goal - gone) * 100 / step;
                }
                gone += step;
                // All seats tire alike, and once they are at their least the drive stays.
                if (fresh > FRESH_LEAST) {
                    fresh = Math.max(FRESH_LEAST, fresh - crew.drumBeat * crew.drumBeat);
                    drive = driveOf(roster, crew, fresh);
                }
            }
        }

        private static int driveOf(Roster roster, Crew crew, int fresh) {
            int sum = 0;
            for (int seat = 0; seat < crew.seatCount(); seat++) {
                sum += roster.strength[crew.seats[seat]] * fresh / 1000;
            }
            return sum * crew.drumBeat;
        }
    }

    /** The finalists, as they were when they were last sought. */
    private static final class FinalList {
        int size = 0;
        final int[] list = new int[MOST_CREWS];
        private final int[] bestTime = new int[MOST_CREWS];
        private final boolean[] byPlace = new boolean[MOST_CREWS];
        private final boolean[] chosen = new boolean[MOST_CREWS];

        void choose(Race[] races, int raceCount, int places, int times) {
            for (int crew = 0; crew < MOST_CREWS; crew++) {
                bestTime[crew] = 0;
                byPlace[crew] = false;
            }
            for (int race = 0; race < raceCount; race++) {
                if (races[race].round != FINAL) {
                    addHeat(races[race], places);
                }
            }
            for (int crew = 0; crew < MOST_CREWS; crew++) {
                chosen[crew] = byPlace[crew]
                        || (bestTime[crew] > 0 && fasterOthers(crew) < times);
            }
            putInOrder();
        }

        private void addHeat(Race heat, int places) {
            for (int lane = 0; lane < LANES; lane++) {
                int hundredths = heat.times[lane];
                int crew = heat.crews[lane];
                if (hundredths > 0 && within(crew, 0, MOST_CREWS - 1)) {
                    boolean isBest = bestTime[crew] == 0 || hundredths < bestTime[crew];
                    bestTime[crew] = isBest ? hundredths : bestTime[crew];
                    byPlace[crew] = byPlace[crew] || heat.placeOf(lane) <= places;
                }
            }
        }

        /** How many, of those that no place brought in, had a lesser best time. */
        private int fasterOthers(int crew) {
            int faster = 0;
            for (int other = 0; other < MOST_CREWS; other++) {
                faster += !byPlace[other] && bestTime[other] > 0
                        && bestTime[other] < bestTime[crew] ? 1 : 0;
            }
            return faster;
        }

        private void putInOrder() {
            size = 0;
            for (int crew = 0; crew < MOST_CREWS; crew++) {
                if (chosen[crew]) {
                    list[chosenAheadOf(crew)] = crew;
                    size++;
                }
            }
        }

        private int chosenAheadOf(int crew) {
            int ahead = 0;
            for (int other = 0; other < MOST_CREWS; other++) {
                boolean isAhead = bestTime[other] < bestTime[crew]
                        || (bestTime[other] == bestTime[crew] && other < crew);
                ahead += chosen[other] && isAhead ? 1 : 0;
            }
            return ahead;
        }
    }
}
