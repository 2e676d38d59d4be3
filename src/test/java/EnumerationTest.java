import java.util.ArrayList;
import java.util.Comparator;
import java.util.List;
import java.util.Random;

/**
 * Small timetables by chance (always the same ones), in which every JOURNEY can be written down: rows of legs are
 * put together blindly, each row is tested by the sentences of section 3, and what is left is sorted by them.
 */
public final class EnumerationTest {
    private static final int TIMETABLES = 1200;
    private static final int MOST_ROWS = 30000;
    private static final int SPAN = 2880;

    private static int wrong = 0;
    private static int compared = 0;
    private static int skipped = 0;

    public static void main(String[] args) {
        for (int seed = 0; seed < TIMETABLES && wrong < 10; seed++) {
            new Timetable(seed).compare();
        }
        check("timetables that are too large are few", skipped < TIMETABLES / 4, true);
        System.out.println(wrong == 0 ? "all of " + compared + " answers are as the rows tell"
            : wrong + " of " + compared + " answers are not as the rows tell");
        if (wrong != 0) {
            System.exit(1);
        }
    }

    private static void check(String what, Object got, Object due) {
        compared++;
        if (!due.equals(got)) {
            wrong++;
            System.out.println(what + " answered " + got + ", due is " + due);
        }
    }

    /** A leg by its numbers; of a walk, trip, day, boarding and alighting are -1; of a ride, footway is -1. */
    private record Leg(int trip, int day, int boarding, int alighting, int footway, int from, int to) {
        boolean isRide() {
            return trip >= 0;
        }
    }

    /** A row of legs that is a JOURNEY, with its times. */
    private record Row(List<Leg> legs, int[] begins, int[] ends, int end, int rides, int price) {
    }

    private static final class Timetable {
        final Random random;
        final String name;
        final WhistleStop x = new WhistleStop();
        final int[] changes;
        // Rows of stop, other, minutes.
        final List<int[]> footways = new ArrayList<>();
        // Rows of price, then stop, arrives, departs of each call.
        final List<List<int[]>> trips = new ArrayList<>();
        final int[] prices;
        final int days;
        // How late each trip is on each day, -1 for no run.
        final int[][] late;
        int tried;
        boolean isTooLarge;

        Timetable(int seed) {
            random = new Random(seed);
            name = "timetable " + seed + ": ";
            changes = new int[2 + random.nextInt(3)];
            for (int stop = 0; stop < changes.length; stop++) {
                changes[stop] = random.nextInt(3) * random.nextInt(4);
                x.addStop(changes[stop]);
            }
            days = 1 + random.nextInt(2);
            x.addCalendar(127, 0, days - 1);
            int walks = random.nextInt(4);
            for (int k = 0; k < walks; k++) {
                int stop = random.nextInt(changes.length);
                int other = (stop + 1 + random.nextInt(changes.length - 1)) % changes.length;
                int minutes = 1 + random.nextInt(5);
                x.addFootway(stop, other, minutes);
                footways.add(new int[] {stop, other, minutes});
            }
            prices = new int[1 + random.nextInt(5)];
            late = new int[prices.length][days];
            int spread = random.nextBoolean() ? 20 : 1460;
            for (int trip = 0; trip < prices.length; trip++) {
                addTrip(trip, spread);
            }
        }

        private void addTrip(int trip, int spread) {
            prices[trip] = random.nextInt(6);
            List<int[]> calls = new ArrayList<>();
            int time = random.nextInt(spread);
            int stop = random.nextInt(changes.length);
            x.addTrip(0, prices[trip], stop, time);
            calls.add(new int[] {stop, time, time});
            int more = random.nextInt(4);
            for (int call = 1; call <= more; call++) {
                int next = random.nextInt(changes.length);
                int arrives = time + random.nextInt(5) * (random.nextInt(12) == 0 ? 300 : 1);
                int departs = arrives + random.nextInt(3);
                if (departs < SPAN) {
                    x.addCall(trip, next, arrives, departs);
                    calls.add(new int[] {next, arrives, departs});
                    time = departs;
                }
            }
            trips.add(calls);
            for (int day = 0; day < days; day++) {
                int chance = random.nextInt(6);
                late[trip][day] = chance == 0 ? -1 : chance == 1 ? random.nextInt(7) : 0;
                if (chance == 0) {
                    x.cancel(trip, day);
                } else if (chance == 1) {
                    x.late(trip, day, late[trip][day]);
                }
            }
        }

        /** All legs that there are from a stop, whenever they are. */
        List<Leg> legsFrom(int stop) {
            List<Leg> legs = new ArrayList<>();
            for (int trip = 0; trip < trips.size(); trip++) {
                List<int[]> calls = trips.get(trip);
                for (int day = 0; day < days; day++) {
                    for (int i = 0; i < calls.size(); i++) {
                        for (int j = i + 1; j < calls.size() && calls.get(i)[0] == stop; j++) {
                            legs.add(new Leg(trip, day, i, j, -1, stop, calls.get(j)[0]));
                        }
                    }
                }
            }
            for (int number = 0; number < footways.size(); number++) {
                int[] footway = footways.get(number);
                if (footway[0] == stop || footway[1] == stop) {
                    legs.add(new Leg(-1, -1, -1, -1, number, stop, footway[0] + footway[1] - stop));
                }
            }
            return legs;
        }

        /** The row of these legs from T on, if section 3 allows it; null if not. */
        Row row(List<Leg> legs, int at) {
            int[] begins = new int[legs.size()];
            int[] ends = new int[legs.size()];
            int rides = 0;
            int price = 0;
            for (int k = 0; k < legs.size(); k++) {
                Leg leg = legs.get(k);
                Leg ahead = k > 0 ? legs.get(k - 1) : null;
                int since = ahead == null ? at : ends[k - 1];
                if (!leg.isRide()) {
                    if (ahead != null && !ahead.isRide()) {
                        return null;
                    }
                    begins[k] = since;
                    ends[k] = since + footways.get(leg.footway)[2];
                } else {
                    if (late[leg.trip][leg.day] < 0) {
                        return null;
                    }
                    int base = 1440 * leg.day + late[leg.trip][leg.day];
                    begins[k] = base + trips.get(leg.trip).get(leg.boarding)[2];
                    ends[k] = base + trips.get(leg.trip).get(leg.alighting)[1];
                    int change = ahead != null && ahead.isRide() ? changes[leg.from] : 0;
                    if (begins[k] < since + change) {
                        return null;
                    }
                    rides++;
                    price += prices[leg.trip];
                }
            }
            int end = legs.isEmpty() ? at : ends[legs.size() - 1];
            return rides <= 6 && end <= at + SPAN ? new Row(legs, begins, ends, end, rides, price) : null;
        }

        /** Every JOURNEY from a stop, begun at T, to wherever it leads. */
        List<List<Row>> journeys(int from, int at) {
            List<List<Row>> rows = new ArrayList<>();
            for (int stop = 0; stop < changes.length; stop++) {
                rows.add(new ArrayList<>());
            }
            tried = 0;
            extend(new ArrayList<>(), from, from, at, rows);
            return rows;
        }

        private void extend(List<Leg> legs, int from, int stop, int at, List<List<Row>> rows) {
            Row row = row(legs, at);
            isTooLarge = isTooLarge || ++tried > MOST_ROWS;
            if (row == null || isTooLarge) {
                return;
            }
            if (!legs.isEmpty() || stop == from) {
                rows.get(stop).add(row);
            }
            for (Leg leg : legsFrom(stop)) {
                List<Leg> longer = new ArrayList<>(legs);
                longer.add(leg);
                extend(longer, from, leg.to, at, rows);
            }
        }

        static int compareLegs(Leg one, Leg other) {
            if (one.isRide() != other.isRide()) {
                return one.isRide() ? -1 : 1;
            }
            return Comparator.comparingInt(Leg::trip).thenComparingInt(Leg::day).thenComparingInt(Leg::boarding)
                .thenComparingInt(Leg::alighting).thenComparingInt(Leg::footway).compare(one, other);
        }

        static int compareRows(Row one, Row other) {
            int byEnd = Integer.compare(one.end, other.end);
            int byRides = Integer.compare(one.rides, other.rides);
            if (byEnd != 0 || byRides != 0) {
                return byEnd != 0 ? byEnd : byRides;
            }
            for (int k = 0; k < one.legs.size() && k < other.legs.size(); k++) {
                int byLeg = compareLegs(one.legs.get(k), other.legs.get(k));
                if (byLeg != 0) {
                    return byLeg;
                }
            }
            return Integer.compare(one.legs.size(), other.legs.size());
        }

        void compare() {
            int from = random.nextInt(changes.length);
            int at = random.nextInt(3) == 0 ? random.nextInt(1500) : random.nextInt(15);
            List<List<Row>> rows = journeys(from, at);
            if (isTooLarge) {
                skipped++;
                return;
            }
            compareReached(from, at, rows);
            for (int to = 0; to < changes.length; to++) {
                List<Row> sorted = new ArrayList<>(rows.get(to));
                sorted.sort(Timetable::compareRows);
                compareTimes(from, to, at, sorted);
                compareFares(from, to, at, sorted);
                compareKept(from, to, at, sorted);
            }
            compareLatest();
        }

        private void compareReached(int from, int at, List<List<Row>> rows) {
            for (int within : new int[] {0, 1, 5, 12, 100, 1440, SPAN - 1, SPAN}) {
                long count = rows.stream().filter(to -> to.stream().anyMatch(r -> r.end <= at + within)).count();
                check(name + "reached(" + from + ", " + at + ", " + within + ")", x.reached(from, at, within),
                    (int) count);
            }
        }

        private void compareTimes(int from, int to, int at, List<Row> sorted) {
            String question = "(" + from + ", " + to + ", " + at;
            check(name + "earliest" + question + ")", x.earliest(from, to, at),
                sorted.isEmpty() ? -1 : sorted.get(0).end);
            check(name + "rides" + question + ")", x.rides(from, to, at),
                sorted.isEmpty() ? -1 : sorted.get(0).rides);
            for (int most = 0; most <= 6; most++) {
                int rides = most;
                check(name + "withRides" + question + ", " + rides + ")", x.withRides(from, to, at, rides),
                    sorted.stream().filter(r -> r.rides <= rides).mapToInt(Row::end).min().orElse(-1));
            }
        }

        private void compareFares(int from, int to, int at, List<Row> sorted) {
            for (int more : new int[] {0, 2, 4, 7, 11, 20, 1440, 1500, SPAN, SPAN + 1, 100000}) {
                int by = at + more;
                check(name + "cheapest(" + from + ", " + to + ", " + at + ", " + by + ")",
                    x.cheapest(from, to, at, by),
                    sorted.stream().filter(r -> r.end <= by).mapToInt(Row::price).min().orElse(-1));
            }
        }

        private void compareKept(int from, int to, int at, List<Row> sorted) {
            String what = name + "behind find(" + from + ", " + to + ", " + at + "): ";
            int legs = x.find(from, to, at);
            check(what + "find", legs, sorted.isEmpty() ? -1 : sorted.get(0).legs.size());
            check(what + "legs()", x.legs(), legs);
            if (sorted.isEmpty() || legs != sorted.get(0).legs.size()) {
                return;
            }
            Row due = sorted.get(0);
            int moved = 0;
            int slack = Integer.MAX_VALUE;
            for (int k = 0; k < legs; k++) {
                Leg leg = due.legs.get(k);
                check(what + "legTrip(" + k + ")", x.legTrip(k), leg.trip);
                check(what + "legTo(" + k + ")", x.legTo(k), leg.to);
                check(what + "legBegin(" + k + ")", x.legBegin(k), due.begins[k]);
                check(what + "legEnd(" + k + ")", x.legEnd(k), due.ends[k]);
                moved += leg.isRide() ? due.ends[k] - due.begins[k] : 0;
                if (k > 0 && leg.isRide()) {
                    int change = due.legs.get(k - 1).isRide() ? changes[leg.from] : 0;
                    slack = Math.min(slack, due.begins[k] - due.ends[k - 1] - change);
                }
            }
            check(what + "slack()", x.slack(), slack == Integer.MAX_VALUE ? -1 : slack);
            check(what + "price()", x.price(), due.price);
            check(what + "moving()", x.moving(), due.end == at ? 0.0 : (double) moved / (due.end - at));
            check(what + "holds()", x.holds(), true);
            compareIf(what, from, to, at, due);
        }

        /** First what would be if a run was later, then what is when it is later. */
        private void compareIf(String what, int from, int to, int at, Row kept) {
            int trip = random.nextInt(prices.length);
            int day = random.nextInt(days);
            int minutes = random.nextInt(9);
            int before = late[trip][day];
            late[trip][day] = minutes;
            List<Row> rows = journeys(from, at).get(to);
            int end = rows.stream().mapToInt(Row::end).min().orElse(-1);
            boolean isStill = row(kept.legs, at) != null;
            late[trip][day] = before;
            if (isTooLarge) {
                isTooLarge = false;
                return;
            }
            String told = "(" + trip + ", " + day + ", " + minutes + ")";
            check(what + "earliestIf" + told, x.earliestIf(trip, day, minutes), end);
            check(what + "late" + told, x.late(trip, day, minutes), before);
            check(what + "holds() behind late" + told, x.holds(), isStill);
            check(what + "earliest behind late" + told, x.earliest(from, to, at), end);
            if (before < 0) {
                x.cancel(trip, day);
                late[trip][day] = 0;
                check(what + "holds() behind cancel" + told, x.holds(),
                    kept.legs.stream().noneMatch(l -> l.trip == trip && l.day == day) && row(kept.legs, at) != null);
                late[trip][day] = before;
            } else {
                x.late(trip, day, before);
            }
        }

        /** Every minute is tried, from the time back. */
        private void compareLatest() {
            int from = random.nextInt(changes.length);
            int to = random.nextInt(changes.length);
            int at = random.nextInt(4) == 0 ? random.nextInt(5500) : random.nextInt(60);
            int time = at;
            while (time >= 0 && !isThereBy(from, to, time, at)) {
                time--;
            }
            if (isTooLarge) {
                isTooLarge = false;
                return;
            }
            check(name + "latest(" + from + ", " + to + ", " + at + ")", x.latest(from, to, at), time);
        }

        private boolean isThereBy(int from, int to, int time, int by) {
            return isTooLarge || journeys(from, time).get(to).stream().anyMatch(r -> r.end <= by);
        }
    }
}
