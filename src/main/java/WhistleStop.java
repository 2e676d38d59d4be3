import java.util.Arrays;

/** A timetable finder. */
public final class WhistleStop {
    private static final int MOST_STOPS = 16;
    private static final int MOST_FOOTWAYS = 20;
    private static final int MOST_CALENDARS = 6;
    private static final int MOST_TRIPS = 24;
    private static final int MOST_CALLS = 8;
    private static final int MOST_RIDES = 6;
    // A WALK ahead of each RIDE, and one behind the last.
    private static final int MOST_LEGS = 2 * MOST_RIDES + 1;

    private static final int MOST_CHANGE = 30;
    private static final int MOST_WALKED = 60;
    private static final int MOST_PRICE = 500;
    private static final int MOST_LATE = 180;
    private static final int ALL_WEEKDAYS = 127;

    private static final int DAYS = 366;
    private static final int DAY = 1440;
    private static final int WEEK = 7;
    private static final int SPAN = 2 * DAY;
    private static final int LAST_MINUTE = SPAN - 1;
    private static final int LAST_TIME = 500000;

    // So far off every time that minutes can be added or taken without a wrap-around.
    private static final int NEVER = 1000000000;
    private static final int TOO_EARLY = -NEVER;

    private static final int NONE = -1;
    private static final int CANCELLED = -1;

    // latest() looks this far back at once, so that an empty stretch is left in one step.
    private static final int LOOK_BACK = 2 * SPAN;
    // Eight days can touch LOOK_BACK and the minutes that a run may go on behind its day's beginning.
    private static final int MOST_RUNS = MOST_TRIPS * 8;
    private static final int MOST_DEPARTURES = MOST_RUNS * (MOST_CALLS - 1);

    private static final long DIGEST_START = 2503L;

    private final Network net = new Network();
    private final Runs runs = new Runs();
    private final Board board = new Board();
    private final Onward onward = new Onward();
    private final Backward backward = new Backward();
    private final Fares fares = new Fares();
    private final Journey journey = new Journey();

    /** Creates a timetable without stops and trips; no JOURNEY is kept. */
    public WhistleStop() {
    }

    // ---- stops, calendars, trips

    /** Adds a stop with this CHANGE, and returns its number. */
    public int addStop(int change) throws IllegalArgumentException, IllegalStateException {
        needArgument(isWithin(change, 0, MOST_CHANGE));
        needState(net.stopCount < MOST_STOPS);
        net.changes[net.stopCount] = change;
        net.stopCount++;
        return net.stopCount - 1;
    }

    /** Sets the CHANGE of a stop from now on, and returns the one before. */
    public int setChange(int stop, int change) throws IndexOutOfBoundsException, IllegalArgumentException {
        needStop(stop);
        needArgument(isWithin(change, 0, MOST_CHANGE));
        int before = net.changes[stop];
        net.changes[stop] = change;
        return before;
    }

    /** Adds a footway between two stops, and returns its number. */
    public int addFootway(int stop, int other, int minutes)
            throws IndexOutOfBoundsException, IllegalArgumentException, IllegalStateException {
        needStop(stop);
        needStop(other);
        needArgument(stop != other && isWithin(minutes, 1, MOST_WALKED));
        needState(net.footwayCount < MOST_FOOTWAYS);
        net.footways[net.footwayCount] = new Footway(stop, other, minutes);
        net.footwayCount++;
        return net.footwayCount - 1;
    }

    /** Adds a calendar, and returns its number. */
    public int addCalendar(int weekdays, int first, int last)
            throws IllegalArgumentException, IllegalStateException {
        needArgument(isWithin(weekdays, 0, ALL_WEEKDAYS) && isDay(first) && isDay(last) && first <= last);
        needState(net.calendarCount < MOST_CALENDARS);
        net.calendars[net.calendarCount] = new Calendar(weekdays, first, last);
        net.calendarCount++;
        return net.calendarCount - 1;
    }

    /** Tells whether a calendar runs on a day, and returns whether it did before. */
    public boolean except(int calendar, int day, boolean isRunning)
            throws IndexOutOfBoundsException, IllegalArgumentException {
        needIndex(calendar, net.calendarCount);
        needArgument(isDay(day));
        Calendar changed = net.calendars[calendar];
        boolean before = changed.isRunning(day);
        changed.exceptions[day] = isRunning ? Calendar.RUNS : Calendar.RESTS;
        return before;
    }

    /** Returns whether a calendar runs on a day. */
    public boolean runsOn(int calendar, int day) throws IndexOutOfBoundsException {
        needIndex(calendar, net.calendarCount);
        return net.calendars[calendar].isRunning(day);
    }

    /** Adds a trip with its first call, and returns its number. */
    public int addTrip(int calendar, int price, int stop, int departs)
            throws IndexOutOfBoundsException, IllegalArgumentException, IllegalStateException {
        needIndex(calendar, net.calendarCount);
        needStop(stop);
        needArgument(isWithin(price, 0, MOST_PRICE) && isWithin(departs, 0, LAST_MINUTE));
        needState(net.tripCount < MOST_TRIPS);
        Trip trip = new Trip(net.tripCount, net.calendars[calendar], price);
        trip.append(stop, departs, departs);
        net.trips[net.tripCount] = trip;
        net.tripCount++;
        return trip.number;
    }

    /** Adds a call to a trip, behind the others, and returns the number of the call. */
    public int addCall(int trip, int stop, int arrives, int departs)
            throws IndexOutOfBoundsException, IllegalArgumentException, IllegalStateException {
        needTrip(trip);
        needStop(stop);
        Trip extended = net.trips[trip];
        needArgument(arrives >= extended.lastDeparts() && departs >= arrives && departs <= LAST_MINUTE);
        needState(extended.size < MOST_CALLS);
        extended.append(stop, arrives, departs);
        return extended.size - 1;
    }

    /** Returns how many stops there are. */
    public int stops() {
        return net.stopCount;
    }

    /** Returns how many trips there are. */
    public int trips() {
        return net.tripCount;
    }

    /** Returns how many calls a trip has. */
    public int calls(int trip) throws IndexOutOfBoundsException {
        needTrip(trip);
        return net.trips[trip].size;
    }

    /** Returns the stop of a call. */
    public int stopOf(int trip, int call) throws IndexOutOfBoundsException {
        needTrip(trip);
        needIndex(call, net.trips[trip].size);
        return net.trips[trip].stops[call];
    }

    // ---- what is late

    /** Tells how late a trip is on a day, and returns what was told before; -1 if it was cancelled. */
    public int late(int trip, int day, int minutes) throws IndexOutOfBoundsException, IllegalArgumentException {
        needTrip(trip);
        needArgument(isDay(day) && isWithin(minutes, 0, MOST_LATE));
        int before = net.trips[trip].told[day];
        net.trips[trip].told[day] = minutes;
        return before;
    }

    /** Cancels a trip on a day, and returns whether there was a RUN. */
    public boolean cancel(int trip, int day) throws IndexOutOfBoundsException, IllegalArgumentException {
        needTrip(trip);
        needArgument(isDay(day));
        boolean before = net.trips[trip].hasRun(day);
        net.trips[trip].told[day] = CANCELLED;
        return before;
    }

    /** Returns how late the RUN of a trip on a day is; -1 if there is none. */
    public int lateOf(int trip, int day) throws IndexOutOfBoundsException {
        needTrip(trip);
        return net.trips[trip].hasRun(day) ? net.trips[trip].told[day] : NONE;
    }

    // ---- boards

    /** Returns how many departures there are at a stop from a time on. */
    public int departures(int stop, int at) throws IndexOutOfBoundsException, IllegalArgumentException {
        needStop(stop);
        needTime(at);
        board.list(net, runs, stop, at);
        return board.size;
    }

    /** Returns when the departure at a place of the board is; -1 if there are not so many. */
    public int departsAt(int stop, int at, int place) throws IndexOutOfBoundsException, IllegalArgumentException {
        needStop(stop);
        needTime(at);
        needArgument(place >= 0);
        board.list(net, runs, stop, at);
        return place < board.size ? board.timeOf(place) : NONE;
    }

    /** Returns the trip of the departure at a place of the board; -1 if there are not so many. */
    public int tripAt(int stop, int at, int place) throws IndexOutOfBoundsException, IllegalArgumentException {
        needStop(stop);
        needTime(at);
        needArgument(place >= 0);
        board.list(net, runs, stop, at);
        return place < board.size ? board.tripOf(place) : NONE;
    }

    // ---- journeys

    /** Returns the EARLIEST time; -1 if there is no JOURNEY. */
    public int earliest(int from, int to, int at) throws IndexOutOfBoundsException, IllegalArgumentException {
        needStop(from);
        needStop(to);
        needTime(at);
        return leastEnd(from, to, at, MOST_RIDES);
    }

    /** Returns the least time at which a JOURNEY with so many RIDES at most ends; -1 if there is none. */
    public int withRides(int from, int to, int at, int rides)
            throws IndexOutOfBoundsException, IllegalArgumentException {
        needStop(from);
        needStop(to);
        needTime(at);
        needArgument(isWithin(rides, 0, MOST_RIDES));
        return leastEnd(from, to, at, rides);
    }

    /** Returns with how many RIDES one gets there at the EARLIEST time at least; -1 if there is no JOURNEY. */
    public int rides(int from, int to, int at) throws IndexOutOfBoundsException, IllegalArgumentException {
        needStop(from);
        needStop(to);
        needTime(at);
        onward.seek(net, runs, from, at, SPAN);
        return onward.isReached(to) ? onward.fewestRides(to) : NONE;
    }

    /** Returns the least price of a JOURNEY that ends at by or earlier; -1 if there is none. */
    public int cheapest(int from, int to, int at, int by)
            throws IndexOutOfBoundsException, IllegalArgumentException {
        needStop(from);
        needStop(to);
        needTime(at);
        needArgument(by >= at);
        runs.collect(net, at, at + SPAN);
        int least = fares.leastPrice(net, runs, from, to, at, Math.min(by, at + SPAN));
        return least < NEVER ? least : NONE;
    }

    /** Returns the latest T at which one can begin a JOURNEY that ends at the time at, or earlier; -1 if none. */
    public int latest(int from, int to, int at) throws IndexOutOfBoundsException, IllegalArgumentException {
        needStop(from);
        needStop(to);
        needTime(at);
        int deadline = at;
        while (deadline >= 0) {
            runs.collect(net, deadline - LOOK_BACK, deadline);
            backward.seek(net, runs, to, deadline, MOST_RIDES);
            int begin = backward.latestBegin(net, from, MOST_RIDES);
            if (begin >= deadline - SPAN) {
                return begin >= 0 ? begin : NONE;
            }
            // A JOURNEY that is too long here hides the shorter ones that begin no later than it:
            // all of those end by the deadline that follows.
            int bound = Math.max(begin, deadline - LOOK_BACK - 1);
            if (bound < 0) {
                return NONE;
            }
            deadline = Math.min(deadline - 1, bound + SPAN);
        }
        return NONE;
    }

    /** Returns to how many stops, itself too, a JOURNEY ends within some minutes. */
    public int reached(int from, int at, int within) throws IndexOutOfBoundsException, IllegalArgumentException {
        needStop(from);
        needTime(at);
        needArgument(isWithin(within, 0, SPAN));
        onward.seek(net, runs, from, at, within);
        int count = 0;
        for (int stop = 0; stop < net.stopCount; stop++) {
            if (onward.isReached(stop)) {
                count++;
            }
        }
        return count;
    }

    /** Looks for a JOURNEY, and keeps it; returns how many legs it has, -1 if there is none. */
    public int find(int from, int to, int at) throws IndexOutOfBoundsException, IllegalArgumentException {
        needStop(from);
        needStop(to);
        needTime(at);
        journey.ask(from, to, at);
        onward.seek(net, runs, from, at, SPAN);
        if (!onward.isReached(to)) {
            return NONE;
        }
        int rides = onward.fewestRides(to);
        backward.seek(net, runs, to, onward.endOf(to, rides), rides);
        journey.trace(net, runs, backward, rides);
        return legs();
    }

    // ---- the JOURNEY that is kept

    /** Returns how many legs it has; -1 if none is kept. */
    public int legs() {
        return journey.isKept ? journey.size : NONE;
    }

    /** Returns the trip of a leg; -1 for a WALK. */
    public int legTrip(int leg) throws IllegalStateException, IndexOutOfBoundsException {
        needLeg(leg);
        return journey.tripOf(leg);
    }

    /** Returns the stop at which a leg ends. */
    public int legTo(int leg) throws IllegalStateException, IndexOutOfBoundsException {
        needLeg(leg);
        return journey.targets[leg];
    }

    /** Returns when a leg begins. */
    public int legBegin(int leg) throws IllegalStateException, IndexOutOfBoundsException {
        needLeg(leg);
        return journey.begins[leg];
    }

    /** Returns when a leg ends. */
    public int legEnd(int leg) throws IllegalStateException, IndexOutOfBoundsException {
        needLeg(leg);
        return journey.ends[leg];
    }

    /** Returns by how many minutes its tightest RIDE begins later than it has to; -1 without such a RIDE. */
    public int slack() throws IllegalStateException {
        needState(journey.isKept);
        return journey.tightest;
    }

    /** Returns the sum of the prices of its RIDES. */
    public int price() throws IllegalStateException {
        needState(journey.isKept);
        return journey.fare;
    }

    /** Returns whether it is a JOURNEY still. */
    public boolean holds() throws IllegalStateException {
        needState(journey.isKept);
        return journey.isPossible(net);
    }

    /** Returns what earliest() would tell for its question, if a RUN was later. */
    public int earliestIf(int trip, int day, int minutes)
            throws IllegalStateException, IndexOutOfBoundsException, IllegalArgumentException {
        needState(journey.isKept);
        needTrip(trip);
        needArgument(isDay(day) && isWithin(minutes, 0, MOST_LATE));
        Trip delayed = net.trips[trip];
        int before = delayed.told[day];
        delayed.told[day] = minutes;
        int end = leastEnd(journey.from, journey.to, journey.at, MOST_RIDES);
        delayed.told[day] = before;
        return end;
    }

    /** Returns which part of its minutes it is in RIDES; 0 if none is kept, or it takes none. */
    public double moving() {
        int whole = journey.isKept ? journey.minutesInAll() : 0;
        if (whole <= 0) {
            return 0.0;
        }
        return (double) journey.minutesInRides() / (double) whole;
    }

    /** Computes a checksum. */
    public long digest() {
        long sum = mix(mix(DIGEST_START, net.stopCount), net.tripCount);
        for (int trip = 0; trip < net.tripCount; trip++) {
            sum = mix(sum, net.trips[trip].size);
            for (int call = 0; call < net.trips[trip].size; call++) {
                sum = mix(sum, net.trips[trip].stops[call]);
            }
        }
        for (int trip = 0; trip < net.tripCount; trip++) {
            for (int day = 0; day < WEEK; day++) {
                sum = mix(sum, lateOf(trip, day));
            }
        }
        sum = mix(sum, legs());
        return journey.isKept ? mixJourney(sum) : sum;
    }

    private long mixJourney(long start) {
        long sum = start;
        for (int leg = 0; leg < journey.size; leg++) {
            sum = mix(sum, journey.tripOf(leg));
            sum = mix(sum, journey.targets[leg]);
            sum = mix(sum, journey.begins[leg]);
            sum = mix(sum, journey.ends[leg]);
        }
        sum = mix(sum, journey.tightest);
        sum = mix(sum, journey.fare);
        return mix(sum, journey.isPossible(net) ? 1 : 0);
    }

    private static long mix(long sum, int value) {
        return sum * 31 + value;
    }

    private int leastEnd(int from, int to, int at, int rides) {
        onward.seek(net, runs, from, at, SPAN);
        int end = onward.endOf(to, rides);
        return end < NEVER ? end : NONE;
    }

    private static boolean isWithin(int number, int least, int most) {
        return number >= least && number <= most;
    }

    private static boolean isDay(int day) {
        return isWithin(day, 0, DAYS - 1);
    }

    private static void needIndex(int index, int size) {
        if (index < 0 || index >= size) {
            throw new IndexOutOfBoundsException("there is no such number");
        }
    }

    private static void needArgument(boolean isFit) {
        if (!isFit) {
            throw new IllegalArgumentException("an argument is outside its range");
        }
    }

    private static void needState(boolean isFit) {
        if (!isFit) {
            throw new IllegalStateException("there is no room, or no journey is kept");
        }
    }

    private void needStop(int stop) {
        needIndex(stop, net.stopCount);
    }

    private void needTrip(int trip) {
        needIndex(trip, net.tripCount);
    }

    private static void needTime(int at) {
        needArgument(isWithin(at, 0, LAST_TIME));
    }

    private void needLeg(int leg) {
        needState(journey.isKept);
        needIndex(leg, journey.size);
    }

    /** All that was told. */
    private static final class Network {
        final int[] changes = new int[MOST_STOPS];
        final Footway[] footways = new Footway[MOST_FOOTWAYS];
        final Calendar[] calendars = new Calendar[MOST_CALENDARS];
        final Trip[] trips = new Trip[MOST_TRIPS];
        int stopCount;
        int footwayCount;
        int calendarCount;
        int tripCount;
    }

    /** A way between two stops, in both directions. */
    private static final class Footway {
        final int end;
        final int otherEnd;
        final int minutes;

        Footway(int end, int otherEnd, int minutes) {
            this.end = end;
            this.otherEnd = otherEnd;
            this.minutes = minutes;
        }

        int across(int stop) {
            if (stop == end) {
                return otherEnd;
            }
            return stop == otherEnd ? end : NONE;
        }
    }

    /** The days on which trips run. */
    private static final class Calendar {
        static final int RUNS = 1;
        static final int RESTS = 2;

        final int weekdays;
        final int first;
        final int last;
        // 0 on a day without an exception.
        final int[] exceptions = new int[DAYS];

        Calendar(int weekdays, int first, int last) {
            this.weekdays = weekdays;
            this.first = first;
            this.last = last;
        }

        boolean isRunning(int day) {
            if (!isDay(day)) {
                return false;
            }
            if (exceptions[day] != 0) {
                return exceptions[day] == RUNS;
            }
            return isWithin(day, first, last) && (weekdays >> (day % WEEK) & 1) == 1;
        }
    }

    /** A trip: its calls, and what was told of its days. */
    private static final class Trip {
        final int number;
        final Calendar calendar;
        final int fare;
        final int[] stops = new int[MOST_CALLS];
        final int[] arrives = new int[MOST_CALLS];
        final int[] departs = new int[MOST_CALLS];
        // How late it is on each day, or CANCELLED.
        final int[] told = new int[DAYS];
        int size;

        Trip(int number, Calendar calendar, int fare) {
            this.number = number;
            this.calendar = calendar;
            this.fare = fare;
        }

        void append(int stop, int arriving, int departing) {
            if (size < MOST_CALLS) {
                stops[size] = stop;
                arrives[size] = arriving;
                departs[size] = departing;
                size++;
            }
        }

        int lastDeparts() {
            return size > 0 ? departs[size - 1] : 0;
        }

        boolean hasRun(int day) {
            return isDay(day) && told[day] != CANCELLED && calendar.isRunning(day);
        }

        // The time from which the minutes of the calls count, if there is a run on this day.
        int baseOf(int day) {
            return isDay(day) ? DAY * day + told[day] : NEVER;
        }
    }

    /** The runs that are under way between two times, by trips, then by days. */
    private static final class Runs {
        final Trip[] trips = new Trip[MOST_RUNS];
        final int[] days = new int[MOST_RUNS];
        final int[] bases = new int[MOST_RUNS];
        int size;

        void collect(Network net, int since, int until) {
            size = 0;
            int first = Math.max(0, Math.floorDiv(since - LAST_MINUTE - MOST_LATE, DAY));
            int last = Math.min(DAYS - 1, Math.floorDiv(until, DAY));
            for (int number = 0; number < net.tripCount; number++) {
                Trip trip = net.trips[number];
                for (int day = first; day <= last; day++) {
                    if (trip.size > 1 && trip.hasRun(day)) {
                        add(trip, day, since, until);
                    }
                }
            }
        }

        private void add(Trip trip, int day, int since, int until) {
            int base = trip.baseOf(day);
            boolean isUnderWay = base + trip.departs[0] <= until && base + trip.lastDeparts() >= since;
            if (isUnderWay && size < MOST_RUNS) {
                trips[size] = trip;
                days[size] = day;
                bases[size] = base;
                size++;
            }
        }
    }

    /** What departs from a stop. A departure is one number that orders it among the others. */
    private static final class Board {
        private static final long CALL_PLACES = MOST_CALLS;
        private static final long DAY_PLACES = DAYS;
        private static final long TRIP_PLACES = MOST_TRIPS;

        final long[] keys = new long[MOST_DEPARTURES];
        int size;

        void list(Network net, Runs runs, int stop, int at) {
            size = 0;
            runs.collect(net, at, at + SPAN);
            for (int run = 0; run < runs.size; run++) {
                Trip trip = runs.trips[run];
                for (int call = 0; call < trip.size - 1; call++) {
                    int departs = runs.bases[run] + trip.departs[call];
                    if (trip.stops[call] == stop && isWithin(departs, at, at + SPAN)) {
                        long key = departs * TRIP_PLACES + trip.number;
                        insert((key * DAY_PLACES + runs.days[run]) * CALL_PLACES + call);
                    }
                }
            }
        }

        private void insert(long key) {
            if (size >= MOST_DEPARTURES) {
                return;
            }
            int place = size;
            while (place > 0 && keys[place - 1] > key) {
                keys[place] = keys[place - 1];
                place--;
            }
            keys[place] = key;
            size++;
        }

        int timeOf(int place) {
            return (int) (keys[place] / (CALL_PLACES * DAY_PLACES * TRIP_PLACES));
        }

        int tripOf(int place) {
            return (int) (keys[place] / (CALL_PLACES * DAY_PLACES) % TRIP_PLACES);
        }
    }

    /** The search from a stop and a time onwards: how early one gets to each stop, by numbers of RIDES. */
    private static final class Onward {
        // The least end of a JOURNEY to a stop with so many RIDES at most.
        final int[][] ended = new int[MOST_RIDES + 1][MOST_STOPS];
        // The least time from which a further RIDE may begin at a stop.
        final int[][] ready = new int[MOST_RIDES + 1][MOST_STOPS];
        // The least time from which a WALK may begin at a stop: T, or the end of a RIDE.
        final int[] afoot = new int[MOST_STOPS];
        int limit;

        boolean isReached(int stop) {
            return ended[MOST_RIDES][stop] < NEVER;
        }

        int endOf(int stop, int rides) {
            return isWithin(rides, 0, MOST_RIDES) ? ended[rides][stop] : NEVER;
        }

        int fewestRides(int stop) {
            int rides = 0;
            while (rides < MOST_RIDES && ended[rides][stop] > ended[MOST_RIDES][stop]) {
                rides++;
            }
            return rides;
        }

        void seek(Network net, Runs runs, int from, int at, int within) {
            limit = at + within;
            runs.collect(net, at, limit);
            begin(from, at);
            walk(net, 0);
            boolean isBetter = true;
            for (int rides = 1; rides <= MOST_RIDES; rides++) {
                System.arraycopy(ended[rides - 1], 0, ended[rides], 0, MOST_STOPS);
                System.arraycopy(ready[rides - 1], 0, ready[rides], 0, MOST_STOPS);
                if (isBetter) {
                    isBetter = ride(runs, ready[rides - 1]);
                    alight(net, rides);
                    walk(net, rides);
                }
            }
        }

        private void begin(int from, int at) {
            Arrays.fill(ended[0], NEVER);
            Arrays.fill(ready[0], NEVER);
            Arrays.fill(afoot, NEVER);
            ended[0][from] = at;
            ready[0][from] = at;
            afoot[from] = at;
        }

        private boolean ride(Runs runs, int[] readyBefore) {
            boolean isBetter = false;
            for (int run = 0; run < runs.size; run++) {
                isBetter = rideRun(runs.trips[run], runs.bases[run], readyBefore) || isBetter;
            }
            return isBetter;
        }

        private boolean rideRun(Trip trip, int base, int[] readyBefore) {
            boolean isBetter = false;
            boolean isAboard = false;
            for (int call = 0; call < trip.size; call++) {
                int stop = trip.stops[call];
                int arrives = base + trip.arrives[call];
                if (arrives > limit) {
                    break;
                }
                if (isAboard && arrives < afoot[stop]) {
                    afoot[stop] = arrives;
                    isBetter = true;
                }
                isAboard = isAboard || base + trip.departs[call] >= readyBefore[stop];
            }
            return isBetter;
        }

        private void alight(Network net, int rides) {
            for (int stop = 0; stop < net.stopCount; stop++) {
                ended[rides][stop] = Math.min(ended[rides][stop], afoot[stop]);
                ready[rides][stop] = Math.min(ready[rides][stop], afoot[stop] + net.changes[stop]);
            }
        }

        private void walk(Network net, int rides) {
            for (int number = 0; number < net.footwayCount; number++) {
                Footway footway = net.footways[number];
                cross(rides, footway.end, footway.otherEnd, footway.minutes);
                cross(rides, footway.otherEnd, footway.end, footway.minutes);
            }
        }

        private void cross(int rides, int stop, int other, int minutes) {
            int time = afoot[stop] + minutes;
            if (time <= limit) {
                ended[rides][other] = Math.min(ended[rides][other], time);
                ready[rides][other] = Math.min(ready[rides][other], time);
            }
        }
    }

    /** The search back from a stop and a deadline: how late one may be at each stop, by RIDES that are left. */
    private static final class Backward {
        // The latest departure of a RIDE from a stop by which one is there in time.
        final int[][] boards = new int[MOST_RIDES + 1][MOST_STOPS];
        // The latest end of a RIDE at a stop from which one is there in time.
        final int[][] alights = new int[MOST_RIDES + 1][MOST_STOPS];
        int target;
        int deadline;

        void seek(Network net, Runs runs, int to, int latestEnd, int rides) {
            target = to;
            deadline = latestEnd;
            Arrays.fill(boards[0], TOO_EARLY);
            alight(net, 0);
            boolean isBetter = true;
            for (int left = 1; left <= Math.min(rides, MOST_RIDES); left++) {
                System.arraycopy(boards[left - 1], 0, boards[left], 0, MOST_STOPS);
                System.arraycopy(alights[left - 1], 0, alights[left], 0, MOST_STOPS);
                if (isBetter) {
                    isBetter = ride(runs, boards[left], alights[left - 1]);
                    alight(net, left);
                }
            }
        }

        // How late one may be at a stop to which one has walked, or at which one begins.
        int latestAt(int stop, int left) {
            return stop == target ? deadline : boards[left][stop];
        }

        int latestBegin(Network net, int from, int left) {
            int latest = latestAt(from, left);
            for (int number = 0; number < net.footwayCount; number++) {
                Footway footway = net.footways[number];
                int other = footway.across(from);
                if (other != NONE) {
                    latest = Math.max(latest, latestAt(other, left) - footway.minutes);
                }
            }
            return latest;
        }

        private boolean ride(Runs runs, int[] boardsNow, int[] alightsBefore) {
            boolean isBetter = false;
            for (int run = 0; run < runs.size; run++) {
                isBetter = rideRun(runs.trips[run], runs.bases[run], boardsNow, alightsBefore) || isBetter;
            }
            return isBetter;
        }

        private boolean rideRun(Trip trip, int base, int[] boardsNow, int[] alightsBefore) {
            boolean isBetter = false;
            boolean isInTime = false;
            for (int call = trip.size - 1; call >= 0; call--) {
                int stop = trip.stops[call];
                int departs = base + trip.departs[call];
                if (isInTime && departs > boardsNow[stop]) {
                    boardsNow[stop] = departs;
                    isBetter = true;
                }
                isInTime = isInTime || base + trip.arrives[call] <= alightsBefore[stop];
            }
            return isBetter;
        }

        private void alight(Network net, int left) {
            for (int stop = 0; stop < net.stopCount; stop++) {
                alights[left][stop] = stop == target ? deadline : boards[left][stop] - net.changes[stop];
            }
            for (int number = 0; number < net.footwayCount; number++) {
                Footway footway = net.footways[number];
                cross(left, footway.end, footway.otherEnd, footway.minutes);
                cross(left, footway.otherEnd, footway.end, footway.minutes);
            }
        }

        private void cross(int left, int stop, int other, int minutes) {
            alights[left][stop] = Math.max(alights[left][stop], latestAt(other, left) - minutes);
        }
    }

    /** What it costs to be ready for a RIDE at a stop, by times: the later, the cheaper. */
    private static final class Offers {
        private static final int FIRST_ROOM = 16;

        int[] times = new int[FIRST_ROOM];
        int[] prices = new int[FIRST_ROOM];
        int size;

        int priceAt(int time) {
            int place = size;
            while (place > 0 && times[place - 1] > time) {
                place--;
            }
            return place > 0 ? prices[place - 1] : NEVER;
        }

        // Returns whether this is cheaper than all that is there at that time.
        boolean offer(int time, int price) {
            if (priceAt(time) <= price) {
                return false;
            }
            int first = 0;
            while (first < size && times[first] < time) {
                first++;
            }
            // What is neither earlier nor cheaper from here on gives way.
            int next = first;
            while (next < size && prices[next] >= price) {
                next++;
            }
            makeRoom(size + 1);
            System.arraycopy(times, next, times, first + 1, size - next);
            System.arraycopy(prices, next, prices, first + 1, size - next);
            size += first + 1 - next;
            times[first] = time;
            prices[first] = price;
            return true;
        }

        void copy(Offers other) {
            makeRoom(other.size);
            System.arraycopy(other.times, 0, times, 0, other.size);
            System.arraycopy(other.prices, 0, prices, 0, other.size);
            size = other.size;
        }

        private void makeRoom(int needed) {
            if (needed > times.length) {
                times = Arrays.copyOf(times, 2 * needed);
                prices = Arrays.copyOf(prices, 2 * needed);
            }
        }
    }

    /** The search for the least price. */
    private static final class Fares {
        private Offers[] before = new Offers[MOST_STOPS];
        private Offers[] after = new Offers[MOST_STOPS];
        private int target;
        private int limit;
        private int least;

        Fares() {
            for (int stop = 0; stop < MOST_STOPS; stop++) {
                before[stop] = new Offers();
                after[stop] = new Offers();
            }
        }

        int leastPrice(Network net, Runs runs, int from, int to, int at, int by) {
            target = to;
            limit = by;
            least = from == to ? 0 : NEVER;
            for (int stop = 0; stop < MOST_STOPS; stop++) {
                after[stop].size = 0;
            }
            after[from].offer(at, 0);
            walk(net, from, at, 0);
            boolean isBetter = true;
            for (int rides = 1; rides <= MOST_RIDES && isBetter; rides++) {
                swap();
                isBetter = false;
                for (int run = 0; run < runs.size; run++) {
                    isBetter = rideRun(net, runs.trips[run], runs.bases[run]) || isBetter;
                }
            }
            return least;
        }

        private void swap() {
            Offers[] swapped = before;
            before = after;
            after = swapped;
            for (int stop = 0; stop < MOST_STOPS; stop++) {
                after[stop].copy(before[stop]);
            }
        }

        private boolean rideRun(Network net, Trip trip, int base) {
            boolean isBetter = false;
            int aboard = NEVER;
            for (int call = 0; call < trip.size; call++) {
                int stop = trip.stops[call];
                int arrives = base + trip.arrives[call];
                if (arrives > limit) {
                    break;
                }
                // A way that is as dear as one to the target already can lead to no cheaper one.
                if (aboard + trip.fare < least) {
                    isBetter = alight(net, stop, arrives, aboard + trip.fare) || isBetter;
                }
                aboard = Math.min(aboard, before[stop].priceAt(base + trip.departs[call]));
            }
            return isBetter;
        }

        private boolean alight(Network net, int stop, int time, int price) {
            if (stop == target) {
                least = Math.min(least, price);
                return false;
            }
            boolean isBetter = false;
            if (time + net.changes[stop] <= limit) {
                isBetter = after[stop].offer(time + net.changes[stop], price);
            }
            return walk(net, stop, time, price) || isBetter;
        }

        private boolean walk(Network net, int stop, int time, int price) {
            boolean isBetter = false;
            for (int number = 0; number < net.footwayCount; number++) {
                Footway footway = net.footways[number];
                int other = footway.across(stop);
                int end = time + footway.minutes;
                if (other == NONE || end > limit) {
                    continue;
                }
                if (other == target) {
                    least = Math.min(least, price);
                } else {
                    isBetter = after[other].offer(end, price) || isBetter;
                }
            }
            return isBetter;
        }
    }

    /** The JOURNEY that is kept. */
    private static final class Journey {
        boolean isKept;
        int from;
        int to;
        int at;
        int size;
        // null for a WALK.
        final Trip[] trips = new Trip[MOST_LEGS];
        final int[] days = new int[MOST_LEGS];
        final int[] boardings = new int[MOST_LEGS];
        final int[] alightings = new int[MOST_LEGS];
        final int[] targets = new int[MOST_LEGS];
        final int[] begins = new int[MOST_LEGS];
        final int[] ends = new int[MOST_LEGS];
        int tightest;
        int fare;

        void ask(int fromStop, int toStop, int time) {
            isKept = false;
            from = fromStop;
            to = toStop;
            at = time;
            size = 0;
            tightest = NONE;
            fare = 0;
        }

        // Takes the leg that is ahead of all others from which one gets there in time, again and again.
        void trace(Network net, Runs runs, Backward backward, int rides) {
            int left = rides;
            for (int leg = 0; leg < MOST_LEGS && (left > 0 || stopNow() != to); leg++) {
                if (left > 0 && takeRide(net, runs, backward, left)) {
                    left--;
                } else if (!takeWalk(net, backward, left)) {
                    return;
                }
            }
            isKept = left == 0 && stopNow() == to;
        }

        private int stopNow() {
            return size > 0 ? targets[size - 1] : from;
        }

        private int timeNow() {
            return size > 0 ? ends[size - 1] : at;
        }

        private boolean isAfterRide() {
            return size > 0 && trips[size - 1] != null;
        }

        private boolean takeRide(Network net, Runs runs, Backward backward, int left) {
            int stop = stopNow();
            int since = timeNow() + (isAfterRide() ? net.changes[stop] : 0);
            for (int run = 0; run < runs.size; run++) {
                Trip trip = runs.trips[run];
                int base = runs.bases[run];
                for (int call = 0; call < trip.size - 1; call++) {
                    if (trip.stops[call] == stop && base + trip.departs[call] >= since) {
                        int alighting = alightingOf(trip, base, call, backward.alights[left - 1]);
                        if (alighting != NONE) {
                            addRide(trip, runs.days[run], call, alighting, since);
                            return true;
                        }
                    }
                }
            }
            return false;
        }

        private int alightingOf(Trip trip, int base, int boarding, int[] alights) {
            for (int call = boarding + 1; call < trip.size; call++) {
                if (base + trip.arrives[call] <= alights[trip.stops[call]]) {
                    return call;
                }
            }
            return NONE;
        }

        private void addRide(Trip trip, int day, int boarding, int alighting, int since) {
            int base = trip.baseOf(day);
            int begin = base + trip.departs[boarding];
            if (size > 0) {
                tightest = tightest == NONE ? begin - since : Math.min(tightest, begin - since);
            }
            fare += trip.fare;
            trips[size] = trip;
            days[size] = day;
            boardings[size] = boarding;
            alightings[size] = alighting;
            addLeg(trip.stops[alighting], begin, base + trip.arrives[alighting]);
        }

        private boolean takeWalk(Network net, Backward backward, int left) {
            if (size > 0 && !isAfterRide()) {
                return false;
            }
            int begin = timeNow();
            for (int number = 0; number < net.footwayCount; number++) {
                Footway footway = net.footways[number];
                int other = footway.across(stopNow());
                if (other != NONE && begin + footway.minutes <= backward.latestAt(other, left)) {
                    trips[size] = null;
                    addLeg(other, begin, begin + footway.minutes);
                    return true;
                }
            }
            return false;
        }

        private void addLeg(int target, int begin, int end) {
            targets[size] = target;
            begins[size] = begin;
            ends[size] = end;
            size++;
        }

        int tripOf(int leg) {
            Trip trip = trips[leg];
            return trip == null ? NONE : trip.number;
        }

        boolean isPossible(Network net) {
            int time = at;
            int since = at;
            for (int leg = 0; leg < size; leg++) {
                Trip trip = trips[leg];
                if (trip == null) {
                    time += ends[leg] - begins[leg];
                    since = time;
                } else {
                    int base = trip.baseOf(days[leg]);
                    if (!trip.hasRun(days[leg]) || base + trip.departs[boardings[leg]] < since) {
                        return false;
                    }
                    time = base + trip.arrives[alightings[leg]];
                    since = time + net.changes[targets[leg]];
                }
            }
            return time <= at + SPAN;
        }

        int minutesInAll() {
            return timeNow() - at;
        }

        int minutesInRides() {
            int minutes = 0;
            for (int leg = 0; leg < size; leg++) {
                if (trips[leg] != null) {
                    minutes += ends[leg] - begins[leg];
                }
            }
            return minutes;
        }
    }
}
