import java.util.LinkedHashMap;
import java.util.Map;

/** Calls that are refused, in a timetable that is full: what they throw, and that nothing is changed. */
final class Refusals {
    private static final int LEAST = Sentences.LEAST;
    private static final int MOST = Sentences.MOST;
    private static final Class<IndexOutOfBoundsException> INDEX = Sentences.INDEX;
    private static final Class<IllegalArgumentException> ARGUMENT = Sentences.ARGUMENT;
    private static final Class<IllegalStateException> STATE = Sentences.STATE;

    private final Sentences doc;
    private final Map<String, Call> calls = new LinkedHashMap<>();
    private final Map<String, Class<? extends RuntimeException>> dues = new LinkedHashMap<>();

    interface Call {
        Object answer(WhistleStop x);
    }

    Refusals(Sentences doc) {
        this.doc = doc;
    }

    private void add(Class<? extends RuntimeException> due, String what, Call call) {
        doc.same(what + " is there twice", calls.containsKey(what), false);
        calls.put(what, call);
        dues.put(what, due);
    }

    /** Numbers at their most; the trip 0 has 8 calls; something is late, cancelled, excepted; a journey is kept. */
    private static WhistleStop full() {
        WhistleStop x = new WhistleStop();
        for (int stop = 0; stop < 16; stop++) {
            x.addStop(stop % 4);
        }
        for (int number = 0; number < 20; number++) {
            x.addFootway(number % 15, number % 15 + 1, 12 + number);
        }
        x.addCalendar(127, 0, 365);
        for (int calendar = 1; calendar < 6; calendar++) {
            x.addCalendar(96 + calendar, calendar, 300);
        }
        Timetables.row(x, 10, 0, 1, 2, 3, 4, 5, 6, 7);
        for (int trip = 1; trip < 24; trip++) {
            x.addTrip(trip % 6, 7 * trip, trip % 16, 40 * trip);
            x.addCall(trip, (5 * trip + 2) % 16, 40 * trip + 30, 40 * trip + 35);
        }
        x.late(0, 1, 30);
        x.late(6, 0, 5);
        x.cancel(1, 0);
        x.except(2, 3, true);
        x.except(0, 2, false);
        x.find(0, 15, 10);
        return x;
    }

    private static WhistleStop fullWithoutJourney() {
        WhistleStop x = full();
        x.cancel(3, 0);
        for (int day = 0; day < 3; day++) {
            for (int calendar = 0; calendar < 6; calendar++) {
                x.except(calendar, day, false);
            }
        }
        x.find(0, 15, 0);
        return x;
    }

    /** What an object tells of itself in some 300 calls, the last of them with changes. */
    private static String told(WhistleStop x) {
        StringBuilder text = new StringBuilder();
        text.append(x.digest()).append(' ').append(x.moving()).append(' ').append(x.legs());
        if (x.legs() >= 0) {
            text.append(' ').append(x.earliestIf(0, 0, 9)).append(' ').append(x.earliestIf(6, 0, 150));
        }
        for (int calendar = 0; calendar < 6; calendar++) {
            for (int day : new int[] {0, 1, 2, 3, 300, 301, 365}) {
                text.append(x.runsOn(calendar, day) ? 'r' : '-');
            }
        }
        for (int stop = 0; stop < 16; stop++) {
            text.append(' ').append(x.departures(stop, 0)).append(' ').append(x.departsAt(stop, 1440, 0));
            for (int step : new int[] {1, 2, 7}) {
                text.append(' ').append(x.earliest(stop, (stop + step) % 16, 20));
                text.append(' ').append(x.cheapest(stop, (stop + step) % 16, 20, 3000));
            }
        }
        for (int trip = 0; trip < 24; trip += 6) {
            for (int day : new int[] {0, 1, 2, 365}) {
                text.append(' ').append(x.late(trip, day, 180));
            }
        }
        for (int calendar = 0; calendar < 6; calendar++) {
            text.append(x.except(calendar, 3, true));
        }
        for (int stop = 0; stop < 16; stop++) {
            text.append(' ').append(x.setChange(stop, 30));
        }
        return text.append(' ').append(x.digest()).toString();
    }

    // ---- a method that throws an exception changes nothing

    void changesNothing() {
        gatherTelling();
        gatherAsking();
        gatherKept();
        String whole = told(full());
        doc.same("a journey is kept", full().legs() > 2, true);
        calls.forEach((what, call) -> {
            WhistleStop x = full();
            doc.refuses(dues.get(what), what, () -> call.answer(x));
            doc.same("all of it behind " + what, told(x), whole);
        });
        calls.clear();
        gatherWithoutJourney();
        String without = told(fullWithoutJourney());
        doc.same("no journey is kept", fullWithoutJourney().legs(), -1);
        calls.forEach((what, call) -> {
            WhistleStop x = fullWithoutJourney();
            doc.refuses(dues.get(what), what, () -> call.answer(x));
            doc.same("all of it behind " + what, told(x), without);
        });
        calls.clear();
    }

    private void gatherTelling() {
        add(ARGUMENT, "addStop(31)", x -> x.addStop(31));
        add(STATE, "addStop(3)", x -> x.addStop(3));
        add(INDEX, "setChange(16, 3)", x -> x.setChange(16, 3));
        add(INDEX, "setChange(-1, 3)", x -> x.setChange(-1, 3));
        add(ARGUMENT, "setChange(3, 31)", x -> x.setChange(3, 31));
        add(INDEX, "addFootway(0, 16, 3)", x -> x.addFootway(0, 16, 3));
        add(ARGUMENT, "addFootway(3, 3, 3)", x -> x.addFootway(3, 3, 3));
        add(ARGUMENT, "addFootway(0, 3, 61)", x -> x.addFootway(0, 3, 61));
        add(STATE, "addFootway(0, 3, 1)", x -> x.addFootway(0, 3, 1));
        add(ARGUMENT, "addCalendar(128, 0, 3)", x -> x.addCalendar(128, 0, 3));
        add(ARGUMENT, "addCalendar(1, 3, 0)", x -> x.addCalendar(1, 3, 0));
        add(STATE, "addCalendar(127, 0, 3)", x -> x.addCalendar(127, 0, 3));
        add(INDEX, "except(6, 3, true)", x -> x.except(6, 3, true));
        add(ARGUMENT, "except(0, 366, true)", x -> x.except(0, 366, true));
        add(INDEX, "addTrip(6, 0, 0, 0)", x -> x.addTrip(6, 0, 0, 0));
        add(INDEX, "addTrip(0, 0, 16, 0)", x -> x.addTrip(0, 0, 16, 0));
        add(ARGUMENT, "addTrip(0, 501, 0, 0)", x -> x.addTrip(0, 501, 0, 0));
        add(ARGUMENT, "addTrip(0, 0, 0, 2880)", x -> x.addTrip(0, 0, 0, 2880));
        add(STATE, "addTrip(0, 0, 0, 0)", x -> x.addTrip(0, 0, 0, 0));
        add(INDEX, "addCall(24, 0, 2000, 2000)", x -> x.addCall(24, 0, 2000, 2000));
        add(INDEX, "addCall(1, 16, 2000, 2000)", x -> x.addCall(1, 16, 2000, 2000));
        add(ARGUMENT, "addCall(1, 0, 74, 2000)", x -> x.addCall(1, 0, 74, 2000));
        add(ARGUMENT, "addCall(1, 0, 2000, 1999)", x -> x.addCall(1, 0, 2000, 1999));
        add(ARGUMENT, "addCall(1, 0, 2000, 2880)", x -> x.addCall(1, 0, 2000, 2880));
        add(STATE, "addCall(0, 0, 2000, 2000)", x -> x.addCall(0, 0, 2000, 2000));
        add(INDEX, "late(24, 0, 3)", x -> x.late(24, 0, 3));
        add(ARGUMENT, "late(0, 366, 3)", x -> x.late(0, 366, 3));
        add(ARGUMENT, "late(0, 0, 181)", x -> x.late(0, 0, 181));
        add(ARGUMENT, "late(1, 0, -1), cancelled", x -> x.late(1, 0, -1));
        add(INDEX, "cancel(24, 0)", x -> x.cancel(24, 0));
        add(ARGUMENT, "cancel(0, -1)", x -> x.cancel(0, -1));
    }

    private void gatherAsking() {
        add(INDEX, "runsOn(6, 0)", x -> x.runsOn(6, 0));
        add(INDEX, "calls(24)", x -> x.calls(24));
        add(INDEX, "stopOf(24, 0)", x -> x.stopOf(24, 0));
        add(INDEX, "stopOf(0, 8)", x -> x.stopOf(0, 8));
        add(INDEX, "lateOf(24, 0)", x -> x.lateOf(24, 0));
        add(INDEX, "departures(16, 0)", x -> x.departures(16, 0));
        add(ARGUMENT, "departures(0, -1)", x -> x.departures(0, -1));
        add(INDEX, "departsAt(16, 0, 0)", x -> x.departsAt(16, 0, 0));
        add(ARGUMENT, "departsAt(0, 0, -1)", x -> x.departsAt(0, 0, -1));
        add(INDEX, "tripAt(16, 0, 0)", x -> x.tripAt(16, 0, 0));
        add(ARGUMENT, "tripAt(0, 500001, 0)", x -> x.tripAt(0, 500001, 0));
        add(INDEX, "earliest(16, 0, 0)", x -> x.earliest(16, 0, 0));
        add(ARGUMENT, "earliest(0, 1, 500001)", x -> x.earliest(0, 1, 500001));
        add(INDEX, "withRides(0, 16, 0, 0)", x -> x.withRides(0, 16, 0, 0));
        add(ARGUMENT, "withRides(0, 1, 0, 7)", x -> x.withRides(0, 1, 0, 7));
        add(INDEX, "rides(16, 0, 0)", x -> x.rides(16, 0, 0));
        add(ARGUMENT, "rides(0, 1, -1)", x -> x.rides(0, 1, -1));
        add(INDEX, "cheapest(0, 16, 0, 0)", x -> x.cheapest(0, 16, 0, 0));
        add(ARGUMENT, "cheapest(0, 1, 5, 4)", x -> x.cheapest(0, 1, 5, 4));
        add(INDEX, "latest(16, 0, 0)", x -> x.latest(16, 0, 0));
        add(ARGUMENT, "latest(0, 1, -1)", x -> x.latest(0, 1, -1));
        add(INDEX, "reached(16, 0, 0)", x -> x.reached(16, 0, 0));
        add(ARGUMENT, "reached(0, 0, 2881)", x -> x.reached(0, 0, 2881));
        add(INDEX, "find(0, 16, 0)", x -> x.find(0, 16, 0));
        add(INDEX, "find(-1, 0, 0)", x -> x.find(-1, 0, 0));
        add(ARGUMENT, "find(0, 3, -1)", x -> x.find(0, 3, -1));
        add(ARGUMENT, "find(0, 0, 500001)", x -> x.find(0, 0, 500001));
    }

    private void gatherKept() {
        add(INDEX, "legTrip(-1)", x -> x.legTrip(-1));
        add(INDEX, "legTo(13)", x -> x.legTo(13));
        add(INDEX, "legBegin(legs())", x -> x.legBegin(x.legs()));
        add(INDEX, "legEnd(MOST)", x -> x.legEnd(MOST));
        add(INDEX, "earliestIf(24, 0, 0)", x -> x.earliestIf(24, 0, 0));
        add(ARGUMENT, "earliestIf(0, 366, 0)", x -> x.earliestIf(0, 366, 0));
        add(ARGUMENT, "earliestIf(1, 0, 181), cancelled", x -> x.earliestIf(1, 0, 181));
    }

    private void gatherWithoutJourney() {
        add(STATE, "legTrip(0)", x -> x.legTrip(0));
        add(STATE, "legTo(0)", x -> x.legTo(0));
        add(STATE, "legBegin(0)", x -> x.legBegin(0));
        add(STATE, "legEnd(0)", x -> x.legEnd(0));
        add(STATE, "slack()", WhistleStop::slack);
        add(STATE, "price()", WhistleStop::price);
        add(STATE, "holds()", WhistleStop::holds);
        add(STATE, "earliestIf(3, 0, 7)", x -> x.earliestIf(3, 0, 7));
    }

    // ---- if several exceptions apply, the one that is named first is thrown

    void firstNamed() {
        gatherSeveralOfTelling();
        gatherSeveralOfAsking();
        WhistleStop x = full();
        calls.forEach((what, call) -> doc.refuses(dues.get(what), what, () -> call.answer(x)));
        calls.clear();
        add(STATE, "legTrip(-1)", y -> y.legTrip(-1));
        add(STATE, "legTo(MOST)", y -> y.legTo(MOST));
        add(STATE, "legBegin(13)", y -> y.legBegin(13));
        add(STATE, "legEnd(LEAST)", y -> y.legEnd(LEAST));
        add(STATE, "earliestIf(24, 0, 0)", y -> y.earliestIf(24, 0, 0));
        add(STATE, "earliestIf(0, -1, 0)", y -> y.earliestIf(0, -1, 0));
        add(STATE, "earliestIf(-1, 366, 181)", y -> y.earliestIf(-1, 366, 181));
        WhistleStop without = fullWithoutJourney();
        calls.forEach((what, call) -> doc.refuses(dues.get(what), what, () -> call.answer(without)));
        calls.clear();
    }

    private void gatherSeveralOfTelling() {
        add(ARGUMENT, "addStop(31) of a full one", x -> x.addStop(31));
        add(INDEX, "setChange(16, 31)", x -> x.setChange(16, 31));
        add(INDEX, "addFootway(16, 16, 3)", x -> x.addFootway(16, 16, 3));
        add(INDEX, "addFootway(0, 16, 61)", x -> x.addFootway(0, 16, 61));
        add(INDEX, "addFootway(-1, 0, 3) of a full one", x -> x.addFootway(-1, 0, 3));
        add(ARGUMENT, "addFootway(3, 3, 3) of a full one", x -> x.addFootway(3, 3, 3));
        add(ARGUMENT, "addFootway(0, 3, 0) of a full one", x -> x.addFootway(0, 3, 0));
        add(ARGUMENT, "addCalendar(-1, 0, 0) of a full one", x -> x.addCalendar(-1, 0, 0));
        add(ARGUMENT, "addCalendar(1, 366, 366) of a full one", x -> x.addCalendar(1, 366, 366));
        add(ARGUMENT, "addCalendar(1, 5, 4) of a full one", x -> x.addCalendar(1, 5, 4));
        add(INDEX, "except(6, 366, true)", x -> x.except(6, 366, true));
        add(INDEX, "addTrip(6, 501, 0, 0)", x -> x.addTrip(6, 501, 0, 0));
        add(INDEX, "addTrip(0, 0, 16, 2880)", x -> x.addTrip(0, 0, 16, 2880));
        add(INDEX, "addTrip(0, 0, 16, 0) of a full one", x -> x.addTrip(0, 0, 16, 0));
        add(INDEX, "addTrip(-1, 0, 0, 0) of a full one", x -> x.addTrip(-1, 0, 0, 0));
        add(ARGUMENT, "addTrip(0, -1, 0, 0) of a full one", x -> x.addTrip(0, -1, 0, 0));
        add(ARGUMENT, "addTrip(0, 0, 0, -1) of a full one", x -> x.addTrip(0, 0, 0, -1));
        add(INDEX, "addCall(24, 0, 5, 4)", x -> x.addCall(24, 0, 5, 4));
        add(INDEX, "addCall(1, 16, 0, 0)", x -> x.addCall(1, 16, 0, 0));
        add(INDEX, "addCall(0, 16, 2000, 2000) of a full one", x -> x.addCall(0, 16, 2000, 2000));
        add(ARGUMENT, "addCall(0, 0, 79, 80) of a full one", x -> x.addCall(0, 0, 79, 80));
        add(ARGUMENT, "addCall(0, 0, 2000, 1999) of a full one", x -> x.addCall(0, 0, 2000, 1999));
        add(ARGUMENT, "addCall(0, 0, 2000, 2880) of a full one", x -> x.addCall(0, 0, 2000, 2880));
        add(INDEX, "late(24, 366, 0)", x -> x.late(24, 366, 0));
        add(INDEX, "late(-1, 0, 181)", x -> x.late(-1, 0, 181));
        add(INDEX, "cancel(24, 366)", x -> x.cancel(24, 366));
    }

    private void gatherSeveralOfAsking() {
        add(INDEX, "departures(16, -1)", x -> x.departures(16, -1));
        add(INDEX, "departsAt(16, -1, 0)", x -> x.departsAt(16, -1, 0));
        add(INDEX, "departsAt(16, 0, -1)", x -> x.departsAt(16, 0, -1));
        add(INDEX, "tripAt(-1, 500001, 0)", x -> x.tripAt(-1, 500001, 0));
        add(INDEX, "tripAt(16, 0, LEAST)", x -> x.tripAt(16, 0, LEAST));
        add(INDEX, "earliest(16, 0, -1)", x -> x.earliest(16, 0, -1));
        add(INDEX, "earliest(0, 16, -1)", x -> x.earliest(0, 16, -1));
        add(INDEX, "withRides(16, 0, 500001, 0)", x -> x.withRides(16, 0, 500001, 0));
        add(INDEX, "withRides(0, 16, 0, 7)", x -> x.withRides(0, 16, 0, 7));
        add(INDEX, "rides(16, 0, -1)", x -> x.rides(16, 0, -1));
        add(INDEX, "rides(0, 16, 500001)", x -> x.rides(0, 16, 500001));
        add(INDEX, "cheapest(16, 0, -1, 0)", x -> x.cheapest(16, 0, -1, 0));
        add(INDEX, "cheapest(0, 16, 5, 4)", x -> x.cheapest(0, 16, 5, 4));
        add(INDEX, "latest(16, 0, -1)", x -> x.latest(16, 0, -1));
        add(INDEX, "latest(0, 16, 500001)", x -> x.latest(0, 16, 500001));
        add(INDEX, "reached(16, -1, 0)", x -> x.reached(16, -1, 0));
        add(INDEX, "reached(-1, 0, 2881)", x -> x.reached(-1, 0, 2881));
        add(INDEX, "find(16, 0, -1)", x -> x.find(16, 0, -1));
        add(INDEX, "find(0, 16, 500001)", x -> x.find(0, 16, 500001));
        add(INDEX, "earliestIf(24, 366, 0)", x -> x.earliestIf(24, 366, 0));
        add(INDEX, "earliestIf(-1, 0, 181)", x -> x.earliestIf(-1, 0, 181));
    }
}
