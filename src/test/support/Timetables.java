import java.util.StringJoiner;

/** Timetables to ask. */
final class Timetables {
    private Timetables() {
    }

    static WhistleStop withStops(int... changes) {
        WhistleStop x = new WhistleStop();
        for (int change : changes) {
            x.addStop(change);
        }
        return x;
    }

    /** Stops with these changes, and the calendar 0, which runs daily. */
    static WhistleStop daily(int... changes) {
        return on(0, 365, changes);
    }

    /** Stops with these changes, and the calendar 0, which runs from one day to another. */
    static WhistleStop on(int first, int last, int... changes) {
        WhistleStop x = withStops(changes);
        x.addCalendar(127, first, last);
        return x;
    }

    /** Adds a trip of two calls by the calendar 0. */
    static int shuttle(WhistleStop x, int price, int from, int departs, int to, int arrives) {
        int trip = x.addTrip(0, price, from, departs);
        x.addCall(trip, to, arrives, arrives);
        return trip;
    }

    /** Adds a trip by the calendar 0 that calls at these stops, each 10 minutes behind the one ahead. */
    static int row(WhistleStop x, int departs, int... stops) {
        int trip = x.addTrip(0, 0, stops[0], departs);
        for (int call = 1; call < stops.length; call++) {
            x.addCall(trip, stops[call], departs + 10 * call, departs + 10 * call);
        }
        return trip;
    }

    /** 0 to 1 by the trip 0, CHANGE 5 there, 1 to 2 by the trip 1, and 2 to 3 on foot. */
    static WhistleStop line() {
        WhistleStop x = daily(2, 5, 3, 1);
        shuttle(x, 30, 0, 100, 1, 120);
        shuttle(x, 12, 1, 127, 2, 150);
        x.addFootway(3, 2, 9);
        return x;
    }

    /** A trip from each of these stops to the next one, ten minutes each, the first at 100. */
    static WhistleStop chain(int stops, int price) {
        WhistleStop x = daily(new int[stops]);
        for (int stop = 0; stop + 1 < stops; stop++) {
            shuttle(x, price, stop, 100 + 10 * stop, stop + 1, 110 + 10 * stop);
        }
        return x;
    }

    static String journeyOf(WhistleStop x) {
        StringJoiner text = new StringJoiner("; ");
        for (int leg = 0; leg < x.legs(); leg++) {
            text.add(x.legTrip(leg) + " to " + x.legTo(leg) + " " + x.legBegin(leg) + "-" + x.legEnd(leg));
        }
        return text.toString();
    }
}
