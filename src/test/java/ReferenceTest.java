import java.util.ArrayDeque;
import java.util.ArrayList;
import java.util.HashMap;
import java.util.HashSet;
import java.util.List;
import java.util.Map;
import java.util.Random;
import java.util.Set;
import java.util.TreeSet;

/**
 * Runs of calls by chance (always the same ones), each answer compared with that of a model, which looks at every
 * state that a journey can come to. The model is slow, and written without a look at how the class works.
 */
public final class ReferenceTest {
    private static final int RUNS = 1500;
    private static final int BIG_RUNS = 25;
    private static final int FARE_RUNS = 150;

    private static int wrong = 0;
    private static int compared = 0;

    public static void main(String[] args) {
        for (int seed = 0; seed < RUNS && wrong < 20; seed++) {
            new Run(seed, Kind.SMALL).play();
        }
        for (int seed = 0; seed < BIG_RUNS && wrong < 20; seed++) {
            new Run(1000000 + seed, Kind.BIG).play();
        }
        for (int seed = 0; seed < FARE_RUNS && wrong < 20; seed++) {
            new Run(2000000 + seed, Kind.FARES).play();
        }
        System.out.println(wrong == 0 ? "all of " + compared + " answers are as the model's"
            : wrong + " of " + compared + " answers are not as the model's");
        if (wrong != 0) {
            System.exit(1);
        }
    }

    /** BIG fills all rows; in FARES, what departs later is cheaper, so that many prices stand side by side. */
    private enum Kind {
        SMALL, BIG, FARES
    }

    private interface Call {
        Object answer();
    }

    private static Object answerOf(Call call) {
        try {
            return call.answer();
        } catch (RuntimeException e) {
            return e.getClass().getName();
        }
    }

    // ---- runs of calls

    private static final class Run {
        final long seed;
        final Random random;
        final boolean isBig;
        final boolean isOfFares;
        final WhistleStop x = new WhistleStop();
        final Model model = new Model();
        final List<String> said = new ArrayList<>();
        final int grid;
        final int span;
        final int firstDay;
        final int days;
        final int mostPrice;
        final int mostChange;

        Run(long seed, Kind kind) {
            this.seed = seed;
            isBig = kind == Kind.BIG;
            isOfFares = kind == Kind.FARES;
            random = new Random(seed);
            grid = new int[] {1, 5, 10, 20, 60}[random.nextInt(5)];
            span = isOfFares ? 1440 : new int[] {60, 300, 1440, 2880}[random.nextInt(4)];
            firstDay = new int[] {0, 0, 0, 340}[random.nextInt(4)];
            days = new int[] {2, 5, 9, 20}[random.nextInt(4)];
            mostPrice = new int[] {0, 3, 20, 500}[random.nextInt(4)];
            mostChange = new int[] {0, 3, 10, 30}[random.nextInt(4)];
        }

        void play() {
            build();
            int asked = isBig ? 40 : 60;
            for (int turn = 0; turn < asked; turn++) {
                if (random.nextInt(4) == 0) {
                    tell();
                } else {
                    ask();
                }
            }
            same("digest()", x::digest, model::digest);
        }

        private void same(String what, Call got, Call due) {
            said.add(what);
            Object gotten = answerOf(got);
            Object wanted = answerOf(due);
            compared++;
            if (!wanted.equals(gotten)) {
                wrong++;
                System.out.println("run " + seed + ": " + what + " answered " + gotten + ", due is " + wanted);
                if (wrong <= 2) {
                    System.out.println("  after " + String.join(", ", said));
                }
            }
        }

        private int upTo(int most) {
            return random.nextInt(most + 1);
        }

        /** Mostly a number that is there; now and then one that is not. */
        private int index(int size) {
            if (size == 0 || random.nextInt(60) == 0) {
                return random.nextBoolean() ? -1 : size;
            }
            return random.nextInt(size);
        }

        private int minute(int most) {
            return random.nextInt(80) == 0 ? (random.nextBoolean() ? -1 : most + 1) : upTo(most) / grid * grid;
        }

        private int time() {
            if (random.nextInt(60) == 0) {
                return new int[] {-1, 500001, 500000, 0}[random.nextInt(4)];
            }
            int time = firstDay * 1440 + upTo(days * 1440 + 1440) / grid * grid;
            return Math.min(500000, time + (random.nextInt(4) == 0 ? upTo(9) : 0));
        }

        private int day() {
            return random.nextInt(50) == 0 ? new int[] {-1, 366, 365, 0}[random.nextInt(4)] : firstDay + upTo(days);
        }

        private void build() {
            int stops = isBig ? 17 : isOfFares ? 3 + random.nextInt(2) : 2 + random.nextInt(5);
            for (int k = 0; k < stops; k++) {
                addStop();
            }
            int calendars = isBig ? 7 : 1 + random.nextInt(3);
            for (int k = 0; k < calendars; k++) {
                addCalendar();
            }
            int footways = isBig ? 21 : random.nextInt(5);
            for (int k = 0; k < footways; k++) {
                addFootway();
            }
            int trips = isBig ? 25 : isOfFares ? 24 : 1 + random.nextInt(8);
            for (int k = 0; k < trips; k++) {
                addTrip();
            }
            int told = random.nextInt(12);
            for (int k = 0; k < told; k++) {
                tellOfDays();
            }
        }

        private void addStop() {
            int change = random.nextInt(40) == 0 ? 31 : upTo(mostChange);
            same("addStop(" + change + ")", () -> x.addStop(change), () -> model.addStop(change));
        }

        private void addCalendar() {
            int weekdays = random.nextInt(3) == 0 ? random.nextInt(128) : 127;
            int first = random.nextInt(3) == 0 ? day() : random.nextInt(20) == 0 ? 0 : firstDay;
            int last = random.nextInt(3) == 0 ? day() : Math.min(365, firstDay + days);
            same("addCalendar(" + weekdays + ", " + first + ", " + last + ")",
                () -> x.addCalendar(weekdays, first, last), () -> model.addCalendar(weekdays, first, last));
        }

        private void addFootway() {
            int stop = index(model.changes.size());
            int other = index(model.changes.size());
            int minutes = random.nextInt(40) == 0 ? 61 : 1 + upTo(59) / grid * grid;
            same("addFootway(" + stop + ", " + other + ", " + minutes + ")",
                () -> x.addFootway(stop, other, minutes), () -> model.addFootway(stop, other, minutes));
        }

        private void addTrip() {
            int calendar = index(model.calendars.size());
            int stop = index(model.changes.size());
            int departs = minute(Math.min(2879, span));
            int price = random.nextInt(60) == 0 ? 501 : isOfFares ? 450 - departs * 3 / 10 + upTo(20) : upTo(mostPrice);
            int trip = model.trips.size();
            same("addTrip(" + calendar + ", " + price + ", " + stop + ", " + departs + ")",
                () -> x.addTrip(calendar, price, stop, departs), () -> model.addTrip(calendar, price, stop, departs));
            int calls = isBig ? random.nextInt(9) : isOfFares ? 1 + random.nextInt(2) : random.nextInt(5);
            int time = departs;
            int step = isOfFares ? 60 : Math.max(1, span / 4);
            for (int k = 0; k < calls && model.trips.size() > trip; k++) {
                int arrives = time + upTo(step) / grid * grid - (random.nextInt(60) == 0 ? 1 : 0);
                int leaves = arrives + (random.nextBoolean() ? 0 : upTo(step / 2) / grid * grid);
                addCall(trip, arrives, leaves);
                time = model.trips.get(trip).lastDeparts();
            }
        }

        private void addCall(int trip, int arrives, int departs) {
            int stop = index(model.changes.size());
            same("addCall(" + trip + ", " + stop + ", " + arrives + ", " + departs + ")",
                () -> x.addCall(trip, stop, arrives, departs), () -> model.addCall(trip, stop, arrives, departs));
        }

        private void tell() {
            switch (random.nextInt(8)) {
                case 0 -> {
                    int stop = index(model.changes.size());
                    int change = random.nextInt(20) == 0 ? -1 : upTo(mostChange);
                    same("setChange(" + stop + ", " + change + ")",
                        () -> x.setChange(stop, change), () -> model.setChange(stop, change));
                }
                case 1 -> addFootway();
                case 2 -> addTrip();
                case 3 -> {
                    int trip = index(model.trips.size());
                    int since = trip >= 0 && trip < model.trips.size() ? model.trips.get(trip).lastDeparts() : 0;
                    int arrives = since + upTo(100) / grid * grid;
                    addCall(trip, arrives, arrives + upTo(10) / grid * grid);
                }
                default -> tellOfDays();
            }
        }

        private void tellOfDays() {
            int day = day();
            switch (random.nextInt(4)) {
                case 0 -> {
                    int calendar = index(model.calendars.size());
                    boolean isRunning = random.nextBoolean();
                    same("except(" + calendar + ", " + day + ", " + isRunning + ")",
                        () -> x.except(calendar, day, isRunning), () -> model.except(calendar, day, isRunning));
                }
                case 1 -> {
                    int trip = index(model.trips.size());
                    same("cancel(" + trip + ", " + day + ")", () -> x.cancel(trip, day), () -> model.cancel(trip, day));
                }
                default -> {
                    int trip = index(model.trips.size());
                    int minutes = minute(random.nextBoolean() ? 180 : 20);
                    same("late(" + trip + ", " + day + ", " + minutes + ")",
                        () -> x.late(trip, day, minutes), () -> model.late(trip, day, minutes));
                }
            }
        }

        private void ask() {
            int from = index(model.changes.size());
            int to = index(model.changes.size());
            int at = time();
            String question = "(" + from + ", " + to + ", " + at;
            switch (isOfFares && random.nextInt(4) > 0 ? 3 : random.nextInt(12)) {
                case 0 -> same("earliest" + question + ")",
                    () -> x.earliest(from, to, at), () -> model.earliest(from, to, at));
                case 1 -> {
                    int rides = random.nextInt(30) == 0 ? 7 : upTo(6);
                    same("withRides" + question + ", " + rides + ")",
                        () -> x.withRides(from, to, at, rides), () -> model.withRides(from, to, at, rides));
                }
                case 2 -> same("rides" + question + ")", () -> x.rides(from, to, at), () -> model.rides(from, to, at));
                case 3, 4 -> {
                    int by = random.nextInt(30) == 0 ? at - 1
                        : random.nextInt(4) == 0 ? Integer.MAX_VALUE : at + upTo(random.nextBoolean() ? 3000 : 500);
                    same("cheapest" + question + ", " + by + ")",
                        () -> x.cheapest(from, to, at, by), () -> model.cheapest(from, to, at, by));
                }
                case 5 -> same("latest" + question + ")",
                    () -> x.latest(from, to, at), () -> model.latest(from, to, at));
                case 6 -> {
                    int within = random.nextInt(30) == 0 ? 2881 : upTo(random.nextBoolean() ? 2880 : 300);
                    same("reached(" + from + ", " + at + ", " + within + ")",
                        () -> x.reached(from, at, within), () -> model.reached(from, at, within));
                }
                case 7 -> board(from, at);
                case 8 -> days();
                default -> {
                    same("find" + question + ")", () -> x.find(from, to, at), () -> model.find(from, to, at));
                    kept();
                }
            }
            if (random.nextInt(3) == 0) {
                kept();
            }
        }

        private void board(int stop, int at) {
            same("departures(" + stop + ", " + at + ")",
                () -> x.departures(stop, at), () -> model.board(stop, at).size());
            for (int place = -1; place < 12; place += 1 + random.nextInt(4)) {
                int asked = place;
                same("departsAt(" + stop + ", " + at + ", " + place + ")",
                    () -> x.departsAt(stop, at, asked), () -> model.ofBoard(stop, at, asked, 0));
                same("tripAt(" + stop + ", " + at + ", " + place + ")",
                    () -> x.tripAt(stop, at, asked), () -> model.ofBoard(stop, at, asked, 1));
            }
        }

        private void days() {
            int calendar = index(model.calendars.size());
            int trip = index(model.trips.size());
            int day = day();
            same("runsOn(" + calendar + ", " + day + ")",
                () -> x.runsOn(calendar, day), () -> model.runsOn(calendar, day));
            same("lateOf(" + trip + ", " + day + ")", () -> x.lateOf(trip, day), () -> model.lateOf(trip, day));
            int call = index(4);
            same("stopOf(" + trip + ", " + call + ")", () -> x.stopOf(trip, call), () -> model.stopOf(trip, call));
            same("calls(" + trip + ")", () -> x.calls(trip), () -> model.trip(trip).calls.size());
            same("stops()", x::stops, () -> model.changes.size());
            same("trips()", x::trips, () -> model.trips.size());
        }

        private void kept() {
            same("legs()", x::legs, model::legs);
            for (int leg = -1; leg <= Math.max(0, model.legs()); leg++) {
                int asked = leg;
                same("legTrip(" + leg + ")", () -> x.legTrip(asked), () -> model.leg(asked).trip);
                same("legTo(" + leg + ")", () -> x.legTo(asked), () -> model.leg(asked).to);
                same("legBegin(" + leg + ")", () -> x.legBegin(asked), () -> model.leg(asked).begin);
                same("legEnd(" + leg + ")", () -> x.legEnd(asked), () -> model.leg(asked).end);
            }
            same("slack()", x::slack, () -> model.kept().slack);
            same("price()", x::price, model::price);
            same("holds()", x::holds, model::holds);
            same("moving()", x::moving, model::moving);
            int trip = index(model.trips.size());
            int day = day();
            int minutes = minute(180);
            same("earliestIf(" + trip + ", " + day + ", " + minutes + ")",
                () -> x.earliestIf(trip, day, minutes), () -> model.earliestIf(trip, day, minutes));
        }
    }

    // ---- the model

    private record Footway(int stop, int other, int minutes) {
    }

    private record Stay(int stop, int arrives, int departs) {
    }

    private static final class Days {
        int weekdays;
        int first;
        int last;
        final Map<Integer, Boolean> exceptions = new HashMap<>();

        boolean runs(int day) {
            if (day < 0 || day > 365) {
                return false;
            }
            boolean isUsual = day >= first && day <= last && (weekdays & 1 << day % 7) != 0;
            return exceptions.getOrDefault(day, isUsual);
        }
    }

    private static final class Trip {
        Days days;
        int price;
        final List<Stay> calls = new ArrayList<>();
        final Map<Integer, Integer> late = new HashMap<>();
        final Set<Integer> cancelled = new HashSet<>();

        boolean runs(int day) {
            return days.runs(day) && !cancelled.contains(day);
        }

        int base(int day) {
            return 1440 * day + late.getOrDefault(day, 0);
        }

        int lastDeparts() {
            return calls.get(calls.size() - 1).departs;
        }
    }

    /** A leg; trip and the others that a walk does not have are -1. */
    private record Leg(int trip, int day, int boarding, int alighting, int footway, int from, int to, int begin,
        int end) {
    }

    /** Where one is, since when, and how one came: 0 begins there, 1 by a ride, 2 by a walk. */
    private record State(int stop, int time, int came, int rides) {
    }

    private static final class Kept {
        int from;
        int to;
        int at;
        int slack;
        List<Leg> legs;
    }

    private static final class Model {
        final List<Integer> changes = new ArrayList<>();
        final List<Footway> footways = new ArrayList<>();
        final List<Days> calendars = new ArrayList<>();
        final List<Trip> trips = new ArrayList<>();
        Kept kept = null;

        static void index(int index, int size) {
            if (index < 0 || index >= size) {
                throw new IndexOutOfBoundsException();
            }
        }

        static void argument(int number, int least, int most) {
            if (number < least || number > most) {
                throw new IllegalArgumentException();
            }
        }

        static void room(int size, int most) {
            if (size >= most) {
                throw new IllegalStateException();
            }
        }

        Trip trip(int trip) {
            index(trip, trips.size());
            return trips.get(trip);
        }

        Kept kept() {
            if (kept == null) {
                throw new IllegalStateException();
            }
            return kept;
        }

        int addStop(int change) {
            argument(change, 0, 30);
            room(changes.size(), 16);
            changes.add(change);
            return changes.size() - 1;
        }

        int setChange(int stop, int change) {
            index(stop, changes.size());
            argument(change, 0, 30);
            return changes.set(stop, change);
        }

        int addFootway(int stop, int other, int minutes) {
            index(stop, changes.size());
            index(other, changes.size());
            argument(minutes, 1, 60);
            argument(stop == other ? 1 : 0, 0, 0);
            room(footways.size(), 20);
            footways.add(new Footway(stop, other, minutes));
            return footways.size() - 1;
        }

        int addCalendar(int weekdays, int first, int last) {
            argument(weekdays, 0, 127);
            argument(first, 0, 365);
            argument(last, first, 365);
            room(calendars.size(), 6);
            Days days = new Days();
            days.weekdays = weekdays;
            days.first = first;
            days.last = last;
            calendars.add(days);
            return calendars.size() - 1;
        }

        boolean except(int calendar, int day, boolean isRunning) {
            index(calendar, calendars.size());
            argument(day, 0, 365);
            boolean before = calendars.get(calendar).runs(day);
            calendars.get(calendar).exceptions.put(day, isRunning);
            return before;
        }

        boolean runsOn(int calendar, int day) {
            index(calendar, calendars.size());
            return calendars.get(calendar).runs(day);
        }

        int addTrip(int calendar, int price, int stop, int departs) {
            index(calendar, calendars.size());
            index(stop, changes.size());
            argument(price, 0, 500);
            argument(departs, 0, 2879);
            room(trips.size(), 24);
            Trip trip = new Trip();
            trip.days = calendars.get(calendar);
            trip.price = price;
            trip.calls.add(new Stay(stop, departs, departs));
            trips.add(trip);
            return trips.size() - 1;
        }

        int addCall(int trip, int stop, int arrives, int departs) {
            index(trip, trips.size());
            index(stop, changes.size());
            argument(arrives, trips.get(trip).lastDeparts(), Integer.MAX_VALUE);
            argument(departs, arrives, 2879);
            room(trips.get(trip).calls.size(), 8);
            trips.get(trip).calls.add(new Stay(stop, arrives, departs));
            return trips.get(trip).calls.size() - 1;
        }

        int stopOf(int trip, int call) {
            index(call, trip(trip).calls.size());
            return trip(trip).calls.get(call).stop;
        }

        int late(int trip, int day, int minutes) {
            trip(trip);
            argument(day, 0, 365);
            argument(minutes, 0, 180);
            boolean wasCancelled = trip(trip).cancelled.remove(day);
            Integer before = trip(trip).late.put(day, minutes);
            return wasCancelled ? -1 : before == null ? 0 : before;
        }

        boolean cancel(int trip, int day) {
            trip(trip);
            argument(day, 0, 365);
            boolean before = trip(trip).runs(day);
            trip(trip).cancelled.add(day);
            return before;
        }

        int lateOf(int trip, int day) {
            return trip(trip).runs(day) ? trip(trip).late.getOrDefault(day, 0) : -1;
        }

        /** Rows of time, trip, day, call. */
        List<int[]> board(int stop, int at) {
            index(stop, changes.size());
            argument(at, 0, 500000);
            List<int[]> rows = new ArrayList<>();
            for (int number = 0; number < trips.size(); number++) {
                Trip trip = trips.get(number);
                for (int day = 0; day <= 365; day++) {
                    for (int call = 0; trip.runs(day) && call + 1 < trip.calls.size(); call++) {
                        int departs = trip.base(day) + trip.calls.get(call).departs;
                        if (trip.calls.get(call).stop == stop && departs >= at && departs <= at + 2880) {
                            rows.add(new int[] {departs, number, day, call});
                        }
                    }
                }
            }
            rows.sort(java.util.Arrays::compare);
            return rows;
        }

        int ofBoard(int stop, int at, int place, int column) {
            List<int[]> rows = board(stop, at);
            argument(place, 0, Integer.MAX_VALUE);
            return place < rows.size() ? rows.get(place)[column] : -1;
        }

        /** The legs that may follow, the one that is ahead first. */
        List<Leg> legsFrom(State state, int begun, int until) {
            List<Leg> legs = new ArrayList<>();
            int need = state.time + (state.came == 1 ? changes.get(state.stop) : 0);
            for (int number = 0; number < trips.size() && state.rides < 6; number++) {
                Trip trip = trips.get(number);
                for (int day = Math.max(0, begun / 1440 - 4); day <= Math.min(365, until / 1440); day++) {
                    if (trip.runs(day)) {
                        addRides(legs, number, day, state.stop, need, until);
                    }
                }
            }
            for (int number = 0; number < footways.size() && state.came != 2; number++) {
                Footway footway = footways.get(number);
                int end = state.time + footway.minutes;
                if (end <= until && footway.stop == state.stop) {
                    legs.add(new Leg(-1, -1, -1, -1, number, state.stop, footway.other, state.time, end));
                } else if (end <= until && footway.other == state.stop) {
                    legs.add(new Leg(-1, -1, -1, -1, number, state.stop, footway.stop, state.time, end));
                }
            }
            return legs;
        }

        void addRides(List<Leg> legs, int number, int day, int stop, int need, int until) {
            Trip trip = trips.get(number);
            for (int i = 0; i < trip.calls.size(); i++) {
                int begin = trip.base(day) + trip.calls.get(i).departs;
                for (int j = i + 1; j < trip.calls.size() && trip.calls.get(i).stop == stop && begin >= need; j++) {
                    int end = trip.base(day) + trip.calls.get(j).arrives;
                    if (end <= until) {
                        legs.add(new Leg(number, day, i, j, -1, stop, trip.calls.get(j).stop, begin, end));
                    }
                }
            }
        }

        static State behind(State state, Leg leg) {
            boolean isRide = leg.trip >= 0;
            return new State(leg.to, leg.end, isRide ? 1 : 2, state.rides + (isRide ? 1 : 0));
        }

        /** Every state that a journey comes to until then, with the least price. */
        Map<State, Integer> states(int from, int at, int until) {
            Map<State, Integer> prices = new HashMap<>();
            ArrayDeque<State> open = new ArrayDeque<>();
            State start = new State(from, at, 0, 0);
            prices.put(start, 0);
            open.add(start);
            while (!open.isEmpty()) {
                State state = open.remove();
                for (Leg leg : legsFrom(state, at, until)) {
                    State next = behind(state, leg);
                    int price = prices.get(state) + (leg.trip >= 0 ? trips.get(leg.trip).price : 0);
                    if (price < prices.getOrDefault(next, Integer.MAX_VALUE)) {
                        prices.put(next, price);
                        open.add(next);
                    }
                }
            }
            return prices;
        }

        void question(int from, int to, int at) {
            index(from, changes.size());
            index(to, changes.size());
            argument(at, 0, 500000);
        }

        int earliest(int from, int to, int at) {
            return withRides(from, to, at, 6);
        }

        int withRides(int from, int to, int at, int rides) {
            question(from, to, at);
            argument(rides, 0, 6);
            return states(from, at, at + 2880).keySet().stream()
                .filter(s -> s.stop == to && s.rides <= rides).mapToInt(s -> s.time).min().orElse(-1);
        }

        int rides(int from, int to, int at) {
            int end = earliest(from, to, at);
            return states(from, at, at + 2880).keySet().stream()
                .filter(s -> s.stop == to && s.time == end).mapToInt(s -> s.rides).min().orElse(-1);
        }

        int cheapest(int from, int to, int at, int by) {
            question(from, to, at);
            argument(by, at, Integer.MAX_VALUE);
            return states(from, at, Math.min(at + 2880, by)).entrySet().stream()
                .filter(e -> e.getKey().stop == to).mapToInt(Map.Entry::getValue).min().orElse(-1);
        }

        /** Between two of these times, nothing is missed by beginning later. */
        int latest(int from, int to, int at) {
            question(from, to, at);
            Set<Integer> walked = new HashSet<>(Set.of(0));
            footways.forEach(f -> walked.add(f.minutes));
            TreeSet<Integer> times = new TreeSet<>();
            walked.forEach(w -> times.add(at - w));
            for (Trip trip : trips) {
                for (int day = 0; day <= 365; day++) {
                    for (int call = 0; call < trip.calls.size() && trip.runs(day); call++) {
                        int departs = trip.base(day) + trip.calls.get(call).departs;
                        walked.forEach(w -> times.add(departs - w));
                    }
                }
            }
            for (int time : times.descendingSet()) {
                if (time >= 0 && time <= at && isThere(from, to, time, Math.min(at, time + 2880))) {
                    return time;
                }
            }
            return -1;
        }

        boolean isThere(int from, int to, int at, int until) {
            return firstJourney(new State(from, at, 0, 0), to, at, until, 6, new HashSet<>()) != null;
        }

        int reached(int from, int at, int within) {
            index(from, changes.size());
            argument(at, 0, 500000);
            argument(within, 0, 2880);
            Set<Integer> stops = new HashSet<>();
            states(from, at, at + within).keySet().forEach(s -> stops.add(s.stop));
            return stops.size();
        }

        /** The first journey that ends there by then, in the order of the document; null if there is none. */
        List<Leg> firstJourney(State state, int to, int begun, int until, int rides, Set<State> vain) {
            if (state.rides > rides || vain.contains(state)) {
                return null;
            }
            if (state.stop == to) {
                return new ArrayList<>();
            }
            for (Leg leg : legsFrom(state, begun, until)) {
                List<Leg> rest = firstJourney(behind(state, leg), to, begun, until, rides, vain);
                if (rest != null) {
                    rest.add(0, leg);
                    return rest;
                }
            }
            vain.add(state);
            return null;
        }

        int find(int from, int to, int at) {
            question(from, to, at);
            int end = earliest(from, to, at);
            kept = null;
            if (end < 0) {
                return -1;
            }
            kept = new Kept();
            kept.from = from;
            kept.to = to;
            kept.at = at;
            kept.legs = firstJourney(new State(from, at, 0, 0), to, at, end, rides(from, to, at), new HashSet<>());
            kept.slack = -1;
            for (int k = 1; k < kept.legs.size(); k++) {
                Leg leg = kept.legs.get(k);
                Leg ahead = kept.legs.get(k - 1);
                int slack = leg.begin - ahead.end - (ahead.trip >= 0 ? changes.get(ahead.to) : 0);
                if (leg.trip >= 0 && (kept.slack < 0 || slack < kept.slack)) {
                    kept.slack = slack;
                }
            }
            return kept.legs.size();
        }

        int legs() {
            return kept == null ? -1 : kept.legs.size();
        }

        Leg leg(int leg) {
            index(leg, kept().legs.size());
            return kept().legs.get(leg);
        }

        int price() {
            return kept().legs.stream().mapToInt(l -> l.trip >= 0 ? trips.get(l.trip).price : 0).sum();
        }

        boolean holds() {
            State state = new State(kept().from, kept().at, 0, 0);
            for (Leg leg : kept().legs) {
                Leg now = null;
                for (Leg each : legsFrom(state, kept().at, kept().at + 2880)) {
                    boolean isSame = each.trip == leg.trip && each.day == leg.day && each.boarding == leg.boarding
                        && each.alighting == leg.alighting && each.footway == leg.footway;
                    now = isSame ? each : now;
                }
                if (now == null) {
                    return false;
                }
                state = behind(state, now);
            }
            return true;
        }

        double moving() {
            if (kept == null || kept.legs.isEmpty()) {
                return 0.0;
            }
            int minutes = kept.legs.stream().mapToInt(l -> l.trip >= 0 ? l.end - l.begin : 0).sum();
            int all = kept.legs.get(kept.legs.size() - 1).end - kept.at;
            return all == 0 ? 0.0 : (double) minutes / all;
        }

        int earliestIf(int trip, int day, int minutes) {
            kept();
            trip(trip);
            argument(day, 0, 365);
            argument(minutes, 0, 180);
            boolean wasCancelled = trip(trip).cancelled.remove(day);
            Integer before = trip(trip).late.put(day, minutes);
            int end = earliest(kept.from, kept.to, kept.at);
            if (wasCancelled) {
                trip(trip).cancelled.add(day);
            }
            if (before == null) {
                trip(trip).late.remove(day);
            } else {
                trip(trip).late.put(day, before);
            }
            return end;
        }

        long digest() {
            List<Integer> row = new ArrayList<>(List.of(changes.size(), trips.size()));
            for (Trip trip : trips) {
                row.add(trip.calls.size());
                trip.calls.forEach(call -> row.add(call.stop));
            }
            for (int trip = 0; trip < trips.size(); trip++) {
                for (int day = 0; day < 7; day++) {
                    row.add(lateOf(trip, day));
                }
            }
            row.add(legs());
            if (kept != null) {
                kept.legs.forEach(l -> row.addAll(List.of(l.trip, l.to, l.begin, l.end)));
                row.addAll(List.of(kept.slack, price(), holds() ? 1 : 0));
            }
            long sum = 2503;
            for (int each : row) {
                sum = sum * 31 + each;
            }
            return sum;
        }
    }
}
