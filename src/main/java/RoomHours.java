import java.util.Arrays;

/**
 * Rooms hour by hour: heat that goes through walls, from sun, persons and heaters, in whole numbers
 * of which none is lost; and trials that tell how early to begin to heat and how strong a heater
 * must be.
 */
public final class RoomHours {
    /** There is none. */
    public static final int NONE = -1000000;
    /** The OUTSIDE, of walls. */
    public static final int OUTSIDE = -1;

    private static final int ROOMS = 8;
    private static final int WALLS = 20;
    private static final int WINDOWS = 12;
    private static final int SIDES = 4;
    private static final int HOURS = 24;
    private static final int STEPS_OF_HOUR = 4;
    private static final int STEPS_OF_DAY = HOURS * STEPS_OF_HOUR;

    private static final int STORE_LIMIT = 10000;
    private static final int WARMTH_LIMIT = 5000;
    private static final int LEADS_LIMIT = 1000;
    private static final int LEADS_BY_STORE = 100;
    private static final int AREA_LIMIT = 100;
    private static final int SUN_LIMIT = 1000;
    private static final int PERSONS_LIMIT = 100;
    private static final int MOST_LIMIT = 1000000;
    private static final int RUN_LIMIT = 400;
    private static final int OVER_LIMIT = 100000;
    private static final int TRIAL_LIMIT = 192;
    private static final int STRONGEST = 100000;
    private static final int STRONGER_BY = 1000;

    private static final int PERSONS = 0;
    private static final int SET = 1;
    private static final int COOL = 2;
    private static final int PLANS = 3;
    private static final int HEATING = 0;
    private static final int COOLING = 1;
    private static final int MOSTS = 2;
    private static final int TOLD = 6;
    private static final int BALANCES = 7;

    private static final int LEADS_PART = 100;
    private static final int SUN_PART = 10;
    private static final int SHADED_PART = 4;
    private static final int HEAT_OF_PERSON = 100;

    private static final int NO_ROOM = -1;

    private final House house;
    private final Course now;
    private final Course trial;

    /** No rooms; no step is over. */
    public RoomHours() {
        house = new House();
        now = new Course(house);
        trial = new Course(house);
    }

    // ---- what there is

    /** A new room: its number. */
    public int room(int store, int warmth) throws IllegalArgumentException, IllegalStateException {
        if (!isWithin(store, 1, STORE_LIMIT) || !isWarmth(warmth)) {
            throw new IllegalArgumentException("no such store or warmth");
        }
        if (house.rooms >= ROOMS) {
            throw new IllegalStateException("there are 8 rooms");
        }
        int number = house.addRoom(store);
        now.beginRoom(number, (long) store * warmth);
        return number;
    }

    /** A new wall from a room to another one, or to OUTSIDE: its number. */
    public int wall(int room, int other, int leads)
            throws IllegalArgumentException, IllegalStateException {
        if (!house.hasRoom(room) || room == other || !isWithin(leads, 0, LEADS_LIMIT)) {
            throw new IllegalArgumentException("no such room or leads, or both rooms are one");
        }
        if (other != OUTSIDE && !house.hasRoom(other)) {
            throw new IllegalArgumentException("no such other room");
        }
        if (house.walls >= WALLS || !house.bears(room, leads) || !house.bears(other, leads)) {
            throw new IllegalStateException("there are 20 walls, or too many leads at a room");
        }
        return house.addWall(room, other, leads);
    }

    /** A wall has other LEADS: what it had. */
    public int leads(int wall, int leads) throws IllegalArgumentException, IllegalStateException {
        if (!isWithin(wall, 0, house.walls - 1) || !isWithin(leads, 0, LEADS_LIMIT)) {
            throw new IllegalArgumentException("no such wall or leads");
        }
        int was = house.wallLeads[wall];
        int more = leads - was;
        if (!house.bears(house.wallFrom[wall], more) || !house.bears(house.wallTo[wall], more)) {
            throw new IllegalStateException("too many leads at a room");
        }
        house.addLeads(wall, more);
        return was;
    }

    /** A new window: its number. */
    public int window(int room, int side, int area, int limit)
            throws IllegalArgumentException, IllegalStateException {
        if (!house.hasRoom(room) || !isSide(side)) {
            throw new IllegalArgumentException("no such room or side");
        }
        if (!isWithin(area, 0, AREA_LIMIT) || !isWarmth(limit)) {
            throw new IllegalArgumentException("no such area or limit");
        }
        if (house.windows >= WINDOWS) {
            throw new IllegalStateException("there are 12 windows");
        }
        return house.addWindow(room, side, area, limit);
    }

    /** The OUTSIDE's warmth in an hour of the day: what it was. */
    public int outside(int hour, int warmth) throws IllegalArgumentException {
        if (!isHour(hour) || !isWarmth(warmth)) {
            throw new IllegalArgumentException("no such hour or warmth");
        }
        int was = house.outsides[hour];
        house.outsides[hour] = warmth;
        return was;
    }

    /** The SUN on a side in an hour of the day: what it was. */
    public int sun(int side, int hour, int v) throws IllegalArgumentException {
        if (!isSide(side) || !isHour(hour) || !isWithin(v, 0, SUN_LIMIT)) {
            throw new IllegalArgumentException("no such side, hour or sun");
        }
        int was = house.suns[side][hour];
        house.suns[side][hour] = v;
        return was;
    }

    /** Of a room in an hour of the day PERSONS (0), the SET (1) or the COOL warmth (2): what it was. */
    public int plan(int room, int hour, int what, int v) throws IllegalArgumentException {
        if (!house.hasRoom(room) || !isHour(hour)) {
            throw new IllegalArgumentException("no such room or hour");
        }
        if (!isWithin(what, 0, PLANS - 1) || !isPlan(what, v)) {
            throw new IllegalArgumentException("no such plan");
        }
        int at = room * HOURS + hour;
        int was = house.plans[what][at];
        house.plans[what][at] = v;
        return was;
    }

    /** A room's MOST for heating (0) or cooling (1): what it was. */
    public int most(int room, int what, int v) throws IllegalArgumentException {
        if (!house.hasRoom(room) || !isWithin(what, 0, MOSTS - 1) || !isWithin(v, 0, MOST_LIMIT)) {
            throw new IllegalArgumentException("no such room or most");
        }
        int was = house.mosts[what][room];
        house.mosts[what][room] = v;
        return was;
    }

    /** LOW and HIGH of all rooms. */
    public void ease(int low, int high) throws IllegalArgumentException {
        if (!isWarmth(low) || !isWarmth(high) || low > high) {
            throw new IllegalArgumentException("no such warmths, or low is above high");
        }
        house.low = low;
        house.high = high;
    }

    // ---- steps

    /** n steps: how many are over then. */
    public int run(int n) throws IllegalArgumentException, IllegalStateException {
        if (!isWithin(n, 1, RUN_LIMIT)) {
            throw new IllegalArgumentException("no such number of steps");
        }
        if (now.over + n > OVER_LIMIT) {
            throw new IllegalStateException("there would be more than 100000 steps");
        }
        for (int i = 0; i < n; i++) {
            now.step();
        }
        return now.over;
    }

    /**
     * Of a room its WARMTH (0), its HEAT (1), how many hours were UNEASY (2), what its heater GAVE (3),
     * what was TAKEN from it (4), the greatest that its heater gave in one step (5).
     */
    public long told(int room, int what) throws IllegalArgumentException {
        if (!house.hasRoom(room) || !isWithin(what, 0, TOLD - 1)) {
            throw new IllegalArgumentException("no such room, or nothing such is told");
        }
        switch (what) {
            case 0: return now.warmthOf(room);
            case 1: return now.heat[room];
            case 2: return now.uneasy[room];
            case 3: return now.given[room];
            case 4: return now.taken[room];
            default: return now.greatest[room];
        }
    }

    /**
     * In all: HEAT (0), that of the beginning (1), GIVEN (2), TAKEN (3), from sun (4), from persons (5),
     * gone OUT through walls (6).
     */
    public long balance(int what) throws IllegalArgumentException {
        if (!isWithin(what, 0, BALANCES - 1)) {
            throw new IllegalArgumentException("there is no such balance");
        }
        switch (what) {
            case 0: return now.sumOf(now.heat);
            case 1: return now.begun;
            case 2: return now.sumOf(now.given);
            case 3: return now.sumOf(now.taken);
            case 4: return now.fromSun;
            case 5: return now.fromPersons;
            default: return now.goneOut;
        }
    }

    // ---- trials

    /** How many hours before an hour's next beginning to heat, for the wanted warmth then, or NONE. */
    public int early(int room, int hour, int wanted) throws IllegalArgumentException {
        if (!house.hasRoom(room) || !isHour(hour) || !isWarmth(wanted)) {
            throw new IllegalArgumentException("no such room, hour or warmth");
        }
        int beginning = now.nextBeginning(hour);
        for (int h = 0; h <= HOURS; h++) {
            int from = beginning - h * STEPS_OF_HOUR;
            trial.copyOf(now);
            trial.trySet(room, wanted, from);
            for (int s = now.over; s < beginning; s++) {
                trial.step();
            }
            if (trial.warmthOf(room) >= wanted) {
                return h;
            }
            // Hours before now are over: with more of them the trial would be the same again.
            if (from <= now.over) {
                return NONE;
            }
        }
        return NONE;
    }

    /** The least MOST with which a room is not below LOW with persons in so many steps, or NONE. */
    public int strong(int room, int steps) throws IllegalArgumentException {
        if (!house.hasRoom(room) || !isWithin(steps, 1, TRIAL_LIMIT)) {
            throw new IllegalArgumentException("no such room or number of steps");
        }
        // Each is tried in turn, as a stronger heater may do worse: it can bring a window to its LIMIT.
        for (int most = 0; most <= STRONGEST; most += STRONGER_BY) {
            trial.copyOf(now);
            trial.tryMost(room, most);
            if (trial.staysUp(room, steps)) {
                return most;
            }
            // A heater that always gave all that was lacking would do the same if it were stronger.
            if (!trial.fellShort) {
                return NONE;
            }
        }
        return NONE;
    }

    private static boolean isWithin(int v, int least, int greatest) {
        return v >= least && v <= greatest;
    }

    private static boolean isWarmth(int v) {
        return isWithin(v, -WARMTH_LIMIT, WARMTH_LIMIT);
    }

    private static boolean isHour(int v) {
        return isWithin(v, 0, HOURS - 1);
    }

    private static boolean isSide(int v) {
        return isWithin(v, 0, SIDES - 1);
    }

    private static boolean isPlan(int what, int v) {
        return what == PERSONS ? isWithin(v, 0, PERSONS_LIMIT) : v == NONE || isWarmth(v);
    }

    /** What there is, as calls have told it: steps only read it, so that trials need no copy of it. */
    private static final class House {
        int rooms;
        final int[] stores = new int[ROOMS];
        final int[] leadsAt = new int[ROOMS];
        final int[][] mosts = new int[MOSTS][ROOMS];
        final int[][] plans = new int[PLANS][ROOMS * HOURS];

        int walls;
        final int[] wallFrom = new int[WALLS];
        final int[] wallTo = new int[WALLS];
        final int[] wallLeads = new int[WALLS];

        int windows;
        final int[] windowRoom = new int[WINDOWS];
        final int[] windowSide = new int[WINDOWS];
        final int[] windowArea = new int[WINDOWS];
        final int[] windowLimit = new int[WINDOWS];

        final int[] outsides = new int[HOURS];
        final int[][] suns = new int[SIDES][HOURS];
        int low;
        int high;

        House() {
            Arrays.fill(plans[SET], NONE);
            Arrays.fill(plans[COOL], NONE);
        }

        boolean hasRoom(int room) {
            return room >= 0 && room < rooms;
        }

        /** Whether so many more leads may be at a room; the OUTSIDE bears any. */
        boolean bears(int room, int more) {
            return !hasRoom(room) || leadsAt[room] + more <= LEADS_BY_STORE * stores[room];
        }

        int addRoom(int store) {
            int number = rooms;
            stores[number] = store;
            rooms++;
            return number;
        }

        int addWall(int room, int other, int leads) {
            int number = walls;
            wallFrom[number] = room;
            wallTo[number] = other;
            walls++;
            addLeads(number, leads);
            return number;
        }

        void addLeads(int wall, int more) {
            wallLeads[wall] += more;
            leadsAt[wallFrom[wall]] += more;
            if (wallTo[wall] != OUTSIDE) {
                leadsAt[wallTo[wall]] += more;
            }
        }

        int addWindow(int room, int side, int area, int limit) {
            int number = windows;
            windowRoom[number] = room;
            windowSide[number] = side;
            windowArea[number] = area;
            windowLimit[number] = limit;
            windows++;
            return number;
        }
    }

    /** A course of steps through a house: the one that happens, or a trial. */
    private static final class Course {
        final House house;
        int over;
        final long[] heat = new long[ROOMS];
        final long[] warmth = new long[ROOMS];

        final long[] given = new long[ROOMS];
        final long[] taken = new long[ROOMS];
        final long[] greatest = new long[ROOMS];
        final int[] uneasy = new int[ROOMS];
        long begun;
        long fromSun;
        long fromPersons;
        long goneOut;

        // What a trial has otherwise than the house; the course that happens tries nothing.
        int setRoom = NO_ROOM;
        int setTried;
        int setFrom;
        int mostRoom = NO_ROOM;
        int mostTried;
        boolean fellShort;

        Course(House house) {
            this.house = house;
        }

        void beginRoom(int room, long itsHeat) {
            heat[room] = itsHeat;
            begun += itsHeat;
        }

        /** Takes over what later steps depend on, not the sums, which nobody asks of a trial. */
        void copyOf(Course other) {
            over = other.over;
            System.arraycopy(other.heat, 0, heat, 0, ROOMS);
            setRoom = NO_ROOM;
            mostRoom = NO_ROOM;
            fellShort = false;
        }

        void trySet(int room, int wanted, int from) {
            setRoom = room;
            setTried = wanted;
            setFrom = from;
        }

        void tryMost(int room, int most) {
            mostRoom = room;
            mostTried = most;
        }

        long warmthOf(int room) {
            long store = house.stores[room];
            return store < 1 ? 0 : Math.floorDiv(heat[room], store);
        }

        long sumOf(long[] byRoom) {
            long sum = 0;
            for (int r = 0; r < house.rooms; r++) {
                sum += byRoom[r];
            }
            return sum;
        }

        int nextBeginning(int hour) {
            int ahead = Math.floorMod(hour * STEPS_OF_HOUR - over, STEPS_OF_DAY);
            return over + (ahead == 0 ? STEPS_OF_DAY : ahead);
        }

        /** Steps until the room is below LOW at the end of an hour with persons: whether it never is. */
        boolean staysUp(int room, int steps) {
            for (int s = 0; s < steps; s++) {
                int hour = hourOfDay();
                step();
                if (hourEnds() && hasPersons(room, hour) && warmthOf(room) < house.low) {
                    return false;
                }
            }
            return true;
        }

        void step() {
            int hour = hourOfDay();
            for (int r = 0; r < house.rooms; r++) {
                warmth[r] = warmthOf(r);
            }
            passWalls(hour);
            passWindows(hour);
            for (int r = 0; r < house.rooms; r++) {
                bringPersons(r, hour);
                heatUp(r, hour);
                coolDown(r, hour);
            }
            over++;
            if (hourEnds()) {
                countUneasy(hour);
            }
        }

        private int hourOfDay() {
            return over / STEPS_OF_HOUR % HOURS;
        }

        private boolean hourEnds() {
            return over % STEPS_OF_HOUR == 0;
        }

        private int planned(int what, int room, int hour) {
            return house.plans[what][room * HOURS + hour];
        }

        private boolean hasPersons(int room, int hour) {
            return planned(PERSONS, room, hour) > 0;
        }

        private void passWalls(int hour) {
            for (int w = 0; w < house.walls; w++) {
                int from = house.wallFrom[w];
                int to = house.wallTo[w];
                long there = to == OUTSIDE ? house.outsides[hour] : warmth[to];
                long goes = (warmth[from] - there) * house.wallLeads[w] / LEADS_PART;
                heat[from] -= goes;
                if (to == OUTSIDE) {
                    goneOut += goes;
                } else {
                    heat[to] += goes;
                }
            }
        }

        private void passWindows(int hour) {
            for (int w = 0; w < house.windows; w++) {
                int room = house.windowRoom[w];
                int brings = house.windowArea[w] * house.suns[house.windowSide[w]][hour] / SUN_PART;
                if (warmth[room] > house.windowLimit[w]) {
                    brings = brings / SHADED_PART;
                }
                heat[room] += brings;
                fromSun += brings;
            }
        }

        private void bringPersons(int room, int hour) {
            int brings = planned(PERSONS, room, hour) * HEAT_OF_PERSON;
            heat[room] += brings;
            fromPersons += brings;
        }

        private void heatUp(int room, int hour) {
            int set = setOf(room, hour);
            if (set == NONE) {
                return;
            }
            long lacking = (long) house.stores[room] * set - heat[room];
            if (lacking <= 0) {
                return;
            }
            long most = heatingOf(room);
            if (room == mostRoom && lacking > most) {
                fellShort = true;
            }
            long gives = Math.min(lacking, most);
            heat[room] += gives;
            given[room] += gives;
            greatest[room] = Math.max(greatest[room], gives);
        }

        private int setOf(int room, int hour) {
            return room == setRoom && over >= setFrom ? setTried : planned(SET, room, hour);
        }

        private int heatingOf(int room) {
            return room == mostRoom ? mostTried : house.mosts[HEATING][room];
        }

        private void coolDown(int room, int hour) {
            int cool = planned(COOL, room, hour);
            if (cool == NONE) {
                return;
            }
            long tooMuch = heat[room] - (long) house.stores[room] * cool;
            if (tooMuch <= 0) {
                return;
            }
            long takes = Math.min(tooMuch, house.mosts[COOLING][room]);
            heat[room] -= takes;
            taken[room] += takes;
        }

        private void countUneasy(int hour) {
            for (int r = 0; r < house.rooms; r++) {
                long w = warmthOf(r);
                if (hasPersons(r, hour) && (w < house.low || w > house.high)) {
                    uneasy[r]++;
                }
            }
        }
    }
}
