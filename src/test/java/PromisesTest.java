/** At least one test for each promise: ordinary inputs, the edges that the document names, and wrong inputs. */
public final class PromisesTest {
    private static final Class<IndexOutOfBoundsException> INDEX = IndexOutOfBoundsException.class;
    private static final Class<IllegalArgumentException> ARGUMENT = IllegalArgumentException.class;
    private static final Class<IllegalStateException> STATE = IllegalStateException.class;
    private static final int LEAST = Integer.MIN_VALUE;
    private static final int MOST = Integer.MAX_VALUE;

    private static int wrong = 0;
    private static int promise = 0;

    private interface Call {
        Object answer();
    }

    public static void main(String[] args) {
        Runnable[] tests = {
            PromisesTest::newObject, PromisesTest::addStop, PromisesTest::setChange, PromisesTest::addFootway,
            PromisesTest::addCalendar, PromisesTest::except, PromisesTest::runsOn, PromisesTest::addTrip,
            PromisesTest::addCall, PromisesTest::stops, PromisesTest::trips, PromisesTest::calls,
            PromisesTest::stopOf, PromisesTest::late, PromisesTest::cancel, PromisesTest::lateOf,
            PromisesTest::departures, PromisesTest::departsAt, PromisesTest::tripAt, PromisesTest::earliest,
            PromisesTest::withRides, PromisesTest::rides, PromisesTest::cheapest, PromisesTest::latest,
            PromisesTest::reached, PromisesTest::find, PromisesTest::legs, PromisesTest::legTrip,
            PromisesTest::legTo, PromisesTest::legBegin, PromisesTest::legEnd, PromisesTest::slack,
            PromisesTest::price, PromisesTest::holds, PromisesTest::earliestIf, PromisesTest::moving,
            PromisesTest::digest};
        for (Runnable test : tests) {
            promise++;
            try {
                test.run();
            } catch (RuntimeException e) {
                wrong++;
                System.out.println("promise " + promise + ": " + e);
            }
        }
        System.out.println(wrong == 0 ? "all " + promise + " promises hold" : wrong + " answers are wrong");
        if (wrong != 0) {
            System.exit(1);
        }
    }

    private static void same(String what, Object got, Object due) {
        if (!due.equals(got)) {
            wrong++;
            System.out.println("promise " + promise + ": " + what + " answered " + got + ", due is " + due);
        }
    }

    private static void fails(Class<? extends RuntimeException> due, String what, Call call) {
        try {
            Object got = call.answer();
            wrong++;
            System.out.println("promise " + promise + ": " + what + " answered " + got + ", due is " + due.getName());
        } catch (RuntimeException e) {
            if (e.getClass() != due) {
                wrong++;
                System.out.println("promise " + promise + ": " + what + " threw " + e + ", due is " + due.getName());
            }
        }
    }

    // ---- timetables to ask

    private static WhistleStop withStops(int... changes) {
        WhistleStop x = new WhistleStop();
        for (int change : changes) {
            x.addStop(change);
        }
        return x;
    }

    /** Stops with these changes, and calendar 0, which runs daily. */
    private static WhistleStop daily(int... changes) {
        WhistleStop x = withStops(changes);
        x.addCalendar(127, 0, 365);
        return x;
    }

    /** Adds a trip of two calls. */
    private static int shuttle(WhistleStop x, int price, int from, int departs, int to, int arrives) {
        int trip = x.addTrip(0, price, from, departs);
        x.addCall(trip, to, arrives, arrives);
        return trip;
    }

    /** 0 to 1 by trip 0, change 5 there, 1 to 2 by trip 1, and 2 to 3 on foot: a journey of three legs. */
    private static WhistleStop line() {
        WhistleStop x = daily(2, 5, 3, 1);
        shuttle(x, 30, 0, 100, 1, 120);
        shuttle(x, 12, 1, 127, 2, 150);
        x.addFootway(3, 2, 9);
        return x;
    }

    private static String journeyOf(WhistleStop x) {
        StringBuilder text = new StringBuilder();
        for (int leg = 0; leg < x.legs(); leg++) {
            text.append(leg == 0 ? "" : "; ").append(x.legTrip(leg)).append(" to ").append(x.legTo(leg))
                .append(' ').append(x.legBegin(leg)).append('-').append(x.legEnd(leg));
        }
        return text.toString();
    }

    // ---- the promises

    private static void newObject() {
        WhistleStop x = new WhistleStop();
        same("stops", x.stops(), 0);
        same("trips", x.trips(), 0);
        same("legs", x.legs(), -1);
        same("moving", x.moving(), 0.0);
        same("digest", x.digest(), ((2503L * 31 + 0) * 31 + 0) * 31 - 1);
        fails(INDEX, "calls(0)", () -> x.calls(0));
        fails(INDEX, "runsOn(0, 0)", () -> x.runsOn(0, 0));
        fails(INDEX, "departures(0, 0)", () -> x.departures(0, 0));
        fails(STATE, "price()", x::price);
        WhistleStop full = line();
        full.find(0, 3, 0);
        same("stops of another one", new WhistleStop().stops(), 0);
        same("legs of another one", new WhistleStop().legs(), -1);
    }

    private static void addStop() {
        WhistleStop x = new WhistleStop();
        for (int wrongChange : new int[] {-1, 31, LEAST, MOST}) {
            fails(ARGUMENT, "addStop(" + wrongChange + ")", () -> x.addStop(wrongChange));
        }
        same("stops", x.stops(), 0);
        for (int stop = 0; stop < 16; stop++) {
            same("addStop", x.addStop(stop % 2 == 0 ? 0 : 30), stop);
        }
        fails(STATE, "a 17th stop", () -> x.addStop(5));
        fails(ARGUMENT, "a 17th stop with a wrong change", () -> x.addStop(31));
        same("stops", x.stops(), 16);
        same("change of stop 14", x.setChange(14, 1), 0);
        same("change of stop 15", x.setChange(15, 1), 30);
    }

    private static void setChange() {
        WhistleStop x = daily(2, 5, 3);
        same("setChange(1, 0)", x.setChange(1, 0), 5);
        same("setChange(1, 30)", x.setChange(1, 30), 0);
        fails(INDEX, "setChange(3, 4)", () -> x.setChange(3, 4));
        fails(INDEX, "setChange(-1, 4)", () -> x.setChange(-1, 4));
        fails(INDEX, "setChange(3, 31)", () -> x.setChange(3, 31));
        fails(ARGUMENT, "setChange(1, 31)", () -> x.setChange(1, 31));
        fails(ARGUMENT, "setChange(1, -1)", () -> x.setChange(1, -1));
        same("setChange(1, 7) after wrong ones", x.setChange(1, 7), 30);
        same("setChange(0, 0)", x.setChange(0, 0), 2);
        shuttle(x, 0, 0, 100, 1, 120);
        shuttle(x, 0, 1, 127, 2, 150);
        same("earliest with a change of 7", x.earliest(0, 2, 0), 150);
        x.setChange(1, 8);
        same("earliest with a change of 8", x.earliest(0, 2, 0), 1590);
    }

    private static void addFootway() {
        WhistleStop x = withStops(0, 0, 0);
        fails(INDEX, "addFootway(0, 3, 5)", () -> x.addFootway(0, 3, 5));
        fails(INDEX, "addFootway(-1, 0, 5)", () -> x.addFootway(-1, 0, 5));
        fails(INDEX, "addFootway(3, 3, 0)", () -> x.addFootway(3, 3, 0));
        fails(ARGUMENT, "addFootway(1, 1, 5)", () -> x.addFootway(1, 1, 5));
        fails(ARGUMENT, "addFootway(0, 1, 0)", () -> x.addFootway(0, 1, 0));
        fails(ARGUMENT, "addFootway(0, 1, 61)", () -> x.addFootway(0, 1, 61));
        fails(ARGUMENT, "addFootway(0, 1, LEAST)", () -> x.addFootway(0, 1, LEAST));
        same("no way yet", x.earliest(0, 1, 0), -1);
        same("addFootway(0, 1, 60)", x.addFootway(0, 1, 60), 0);
        same("earliest(0, 1, 7)", x.earliest(0, 1, 7), 67);
        same("earliest(1, 0, 7)", x.earliest(1, 0, 7), 67);
        same("addFootway(1, 0, 1)", x.addFootway(1, 0, 1), 1);
        same("earliest(0, 1, 7)", x.earliest(0, 1, 7), 8);
        for (int number = 2; number < 20; number++) {
            same("addFootway(1, 2, 3)", x.addFootway(1, 2, 3), number);
        }
        fails(STATE, "a 21st footway", () -> x.addFootway(0, 2, 3));
        fails(ARGUMENT, "a 21st footway, too long", () -> x.addFootway(0, 2, 61));
        fails(INDEX, "a 21st footway to nowhere", () -> x.addFootway(0, 3, 3));
        same("no walk follows another", x.earliest(0, 2, 0), -1);
    }

    private static void addCalendar() {
        WhistleStop x = withStops(0);
        int[][] wrongOnes = {{128, 0, 1}, {-1, 0, 1}, {1, -1, 1}, {1, 366, 366}, {1, 5, 4}, {1, 5, 366},
            {LEAST, 0, 1}, {1, 0, MOST}, {1, 0, -1}};
        for (int[] each : wrongOnes) {
            fails(ARGUMENT, "addCalendar" + java.util.Arrays.toString(each),
                () -> x.addCalendar(each[0], each[1], each[2]));
        }
        same("addCalendar(127, 0, 365)", x.addCalendar(127, 0, 365), 0);
        same("addCalendar(0, 3, 3)", x.addCalendar(0, 3, 3), 1);
        same("addCalendar(127, 3, 3)", x.addCalendar(127, 3, 3), 2);
        same("addCalendar(1, 365, 365)", x.addCalendar(1, 365, 365), 3);
        same("addCalendar(2, 0, 365)", x.addCalendar(2, 0, 365), 4);
        same("addCalendar(64, 0, 365)", x.addCalendar(64, 0, 365), 5);
        fails(STATE, "a 7th calendar", () -> x.addCalendar(64, 0, 365));
        fails(ARGUMENT, "a 7th calendar, wrong", () -> x.addCalendar(64, 2, 1));
        fails(INDEX, "runsOn(6, 0)", () -> x.runsOn(6, 0));
        same("no weekday", x.runsOn(1, 3), false);
        same("the only day", x.runsOn(2, 3), true);
    }

    private static void except() {
        WhistleStop x = daily(0);
        x.addCalendar(1, 7, 14);
        fails(INDEX, "except(2, 0, true)", () -> x.except(2, 0, true));
        fails(INDEX, "except(-1, 400, true)", () -> x.except(-1, 400, true));
        fails(ARGUMENT, "except(0, 366, false)", () -> x.except(0, 366, false));
        fails(ARGUMENT, "except(0, -1, false)", () -> x.except(0, -1, false));
        same("except(1, 7, false)", x.except(1, 7, false), true);
        same("except(1, 7, false) again", x.except(1, 7, false), false);
        same("runsOn(1, 7)", x.runsOn(1, 7), false);
        same("except(1, 7, true)", x.except(1, 7, true), false);
        same("runsOn(1, 7)", x.runsOn(1, 7), true);
        same("except(1, 0, true), ahead of the first day", x.except(1, 0, true), false);
        same("except(1, 365, true), behind the last day", x.except(1, 365, true), false);
        same("runsOn(1, 0)", x.runsOn(1, 0), true);
        same("runsOn(1, 365)", x.runsOn(1, 365), true);
        same("except(1, 14, true)", x.except(1, 14, true), true);
        same("runsOn(1, 14)", x.runsOn(1, 14), true);
        same("the other calendar", x.runsOn(0, 7), true);
        x.addStop(0);
        shuttle(x, 0, 0, 10, 1, 20);
        x.except(0, 0, false);
        same("no run on the day 0", x.earliest(0, 1, 0), 1460);
    }

    private static void runsOn() {
        WhistleStop x = withStops(0);
        x.addCalendar(1 + 16, 4, 15);
        int[] running = {4, 7, 11, 14};
        int count = 0;
        for (int day = -3; day < 400; day++) {
            boolean due = count < running.length && running[count] == day;
            count += due ? 1 : 0;
            same("runsOn(0, " + day + ")", x.runsOn(0, day), due);
        }
        x.addCalendar(127, 0, 365);
        same("runsOn(1, 0)", x.runsOn(1, 0), true);
        same("runsOn(1, 365)", x.runsOn(1, 365), true);
        same("runsOn(1, 366)", x.runsOn(1, 366), false);
        same("runsOn(1, -1)", x.runsOn(1, -1), false);
        same("runsOn(1, -7)", x.runsOn(1, -7), false);
        same("runsOn(1, LEAST)", x.runsOn(1, LEAST), false);
        same("runsOn(1, MOST)", x.runsOn(1, MOST), false);
        fails(INDEX, "runsOn(2, 0)", () -> x.runsOn(2, 0));
        fails(INDEX, "runsOn(-1, -1)", () -> x.runsOn(-1, -1));
        x.addCalendar(64, 6, 6);
        same("the Sunday", x.runsOn(2, 6), true);
    }

    private static void addTrip() {
        WhistleStop x = daily(0, 0);
        fails(INDEX, "addTrip(1, 0, 0, 0)", () -> x.addTrip(1, 0, 0, 0));
        fails(INDEX, "addTrip(-1, 501, 0, 0)", () -> x.addTrip(-1, 501, 0, 0));
        fails(INDEX, "addTrip(0, 0, 2, 0)", () -> x.addTrip(0, 0, 2, 0));
        fails(INDEX, "addTrip(0, -1, -1, 0)", () -> x.addTrip(0, -1, -1, 0));
        fails(ARGUMENT, "addTrip(0, -1, 0, 0)", () -> x.addTrip(0, -1, 0, 0));
        fails(ARGUMENT, "addTrip(0, 501, 0, 0)", () -> x.addTrip(0, 501, 0, 0));
        fails(ARGUMENT, "addTrip(0, 0, 0, -1)", () -> x.addTrip(0, 0, 0, -1));
        fails(ARGUMENT, "addTrip(0, 0, 0, 2880)", () -> x.addTrip(0, 0, 0, 2880));
        same("trips", x.trips(), 0);
        same("addTrip(0, 500, 1, 2879)", x.addTrip(0, 500, 1, 2879), 0);
        x.addCall(0, 0, 2879, 2879);
        same("its end", x.earliest(1, 0, 0), 2879);
        same("its price", x.cheapest(1, 0, 0, MOST), 500);
        same("its first stop", x.stopOf(0, 0), 1);
        same("its calls", x.calls(0), 2);
        for (int trip = 1; trip < 24; trip++) {
            same("addTrip(0, 0, 0, 0)", x.addTrip(0, 0, 0, 0), trip);
        }
        fails(STATE, "a 25th trip", () -> x.addTrip(0, 0, 0, 0));
        fails(ARGUMENT, "a 25th trip, too dear", () -> x.addTrip(0, 501, 0, 0));
        fails(INDEX, "a 25th trip from nowhere", () -> x.addTrip(0, 0, 2, 0));
        same("trips", x.trips(), 24);
    }

    private static void addCall() {
        WhistleStop x = daily(0, 0);
        x.addTrip(0, 5, 0, 100);
        fails(INDEX, "addCall(1, 0, 100, 100)", () -> x.addCall(1, 0, 100, 100));
        fails(INDEX, "addCall(-1, 0, 0, 0)", () -> x.addCall(-1, 0, 0, 0));
        fails(INDEX, "addCall(0, 2, 0, 0)", () -> x.addCall(0, 2, 0, 0));
        fails(ARGUMENT, "addCall(0, 1, 99, 120)", () -> x.addCall(0, 1, 99, 120));
        fails(ARGUMENT, "addCall(0, 1, 110, 109)", () -> x.addCall(0, 1, 110, 109));
        fails(ARGUMENT, "addCall(0, 1, 110, 2880)", () -> x.addCall(0, 1, 110, 2880));
        fails(ARGUMENT, "addCall(0, 1, MOST, LEAST)", () -> x.addCall(0, 1, MOST, LEAST));
        same("calls", x.calls(0), 1);
        same("at the same minute", x.addCall(0, 1, 100, 110), 1);
        fails(ARGUMENT, "ahead of the departing", () -> x.addCall(0, 0, 109, 120));
        same("at the minute of departing", x.addCall(0, 0, 110, 110), 2);
        same("at the same stop again", x.addCall(0, 0, 115, 2879), 3);
        for (int call = 4; call < 8; call++) {
            same("addCall(0, 1, 2879, 2879)", x.addCall(0, 1, 2879, 2879), call);
        }
        fails(STATE, "a 9th call", () -> x.addCall(0, 1, 2879, 2879));
        fails(ARGUMENT, "a 9th call, too early", () -> x.addCall(0, 1, 2878, 2879));
        fails(INDEX, "a 9th call, nowhere", () -> x.addCall(0, 2, 2879, 2879));
        same("calls", x.calls(0), 8);
        same("it arrives", x.earliest(0, 1, 0), 100);
        same("it departs", x.departsAt(1, 0, 0), 110);
    }

    private static void stops() {
        WhistleStop x = new WhistleStop();
        same("stops", x.stops(), 0);
        x.addStop(1);
        x.addStop(1);
        same("stops", x.stops(), 2);
        fails(ARGUMENT, "addStop(-1)", () -> x.addStop(-1));
        same("stops", x.stops(), 2);
    }

    private static void trips() {
        WhistleStop x = daily(0, 0);
        same("trips", x.trips(), 0);
        x.addTrip(0, 1, 1, 1);
        x.addTrip(0, 1, 1, 1);
        same("trips", x.trips(), 2);
        fails(INDEX, "addTrip(0, 1, 2, 1)", () -> x.addTrip(0, 1, 2, 1));
        same("trips", x.trips(), 2);
    }

    private static void calls() {
        WhistleStop x = daily(0, 0);
        fails(INDEX, "calls(0)", () -> x.calls(0));
        x.addTrip(0, 1, 1, 1);
        shuttle(x, 0, 0, 5, 1, 6);
        same("calls(0)", x.calls(0), 1);
        same("calls(1)", x.calls(1), 2);
        fails(INDEX, "calls(2)", () -> x.calls(2));
        fails(INDEX, "calls(-1)", () -> x.calls(-1));
        fails(INDEX, "calls(LEAST)", () -> x.calls(LEAST));
    }

    private static void stopOf() {
        WhistleStop x = daily(0, 0, 0);
        fails(INDEX, "stopOf(0, 0)", () -> x.stopOf(0, 0));
        shuttle(x, 0, 2, 5, 0, 6);
        x.addTrip(0, 0, 1, 5);
        same("stopOf(0, 0)", x.stopOf(0, 0), 2);
        same("stopOf(0, 1)", x.stopOf(0, 1), 0);
        same("stopOf(1, 0)", x.stopOf(1, 0), 1);
        fails(INDEX, "stopOf(0, 2)", () -> x.stopOf(0, 2));
        fails(INDEX, "stopOf(0, -1)", () -> x.stopOf(0, -1));
        fails(INDEX, "stopOf(1, 1)", () -> x.stopOf(1, 1));
        fails(INDEX, "stopOf(2, 0)", () -> x.stopOf(2, 0));
        fails(INDEX, "stopOf(-1, 0)", () -> x.stopOf(-1, 0));
        fails(INDEX, "stopOf(0, MOST)", () -> x.stopOf(0, MOST));
    }

    private static void late() {
        WhistleStop x = withStops(0, 0);
        x.addCalendar(2, 0, 365);
        shuttle(x, 0, 0, 10, 1, 20);
        fails(INDEX, "late(1, 0, 0)", () -> x.late(1, 0, 0));
        fails(INDEX, "late(-1, 366, 0)", () -> x.late(-1, 366, 0));
        fails(ARGUMENT, "late(0, 366, 0)", () -> x.late(0, 366, 0));
        fails(ARGUMENT, "late(0, -1, 0)", () -> x.late(0, -1, 0));
        fails(ARGUMENT, "late(0, 0, 181)", () -> x.late(0, 0, 181));
        fails(ARGUMENT, "late(0, 0, -1)", () -> x.late(0, 0, -1));
        same("late(0, 1, 180)", x.late(0, 1, 180), 0);
        same("its end", x.earliest(0, 1, 0), 1640);
        same("late(0, 1, 7)", x.late(0, 1, 7), 180);
        same("late(0, 0, 9), no run", x.late(0, 0, 9), 0);
        same("late(0, 0, 0), no run", x.late(0, 0, 0), 9);
        x.cancel(0, 1);
        same("late(0, 1, 4), cancelled", x.late(0, 1, 4), -1);
        same("late(0, 1, 0)", x.late(0, 1, 0), 4);
        same("it runs again", x.earliest(0, 1, 0), 1460);
        same("late(0, 365, 1)", x.late(0, 365, 1), 0);
        x.late(0, 0, 30);
        x.except(0, 0, true);
        same("it stays late, whatever the calendar is told", x.earliest(0, 1, 0), 50);
    }

    private static void cancel() {
        WhistleStop x = withStops(0, 0);
        x.addCalendar(2, 0, 365);
        shuttle(x, 0, 0, 10, 1, 20);
        fails(INDEX, "cancel(1, 0)", () -> x.cancel(1, 0));
        fails(INDEX, "cancel(-1, -1)", () -> x.cancel(-1, -1));
        fails(ARGUMENT, "cancel(0, -1)", () -> x.cancel(0, -1));
        fails(ARGUMENT, "cancel(0, 366)", () -> x.cancel(0, 366));
        same("cancel(0, 0), no run", x.cancel(0, 0), false);
        x.except(0, 0, true);
        same("it stays cancelled", x.lateOf(0, 0), -1);
        same("late(0, 0, 0), cancelled", x.late(0, 0, 0), -1);
        same("lateOf(0, 0)", x.lateOf(0, 0), 0);
        same("cancel(0, 1)", x.cancel(0, 1), true);
        same("cancel(0, 1) again", x.cancel(0, 1), false);
        same("the run of the next week", x.earliest(0, 1, 8 * 1440), 8 * 1440 + 20);
        same("no run", x.earliest(0, 1, 1440), -1);
        same("cancel(0, 364)", x.cancel(0, 364), false);
        same("cancel(0, 365)", x.cancel(0, 365), true);
    }

    private static void lateOf() {
        WhistleStop x = withStops(0, 0);
        x.addCalendar(2, 0, 365);
        x.addTrip(0, 0, 0, 10);
        fails(INDEX, "lateOf(1, 1)", () -> x.lateOf(1, 1));
        fails(INDEX, "lateOf(-1, -1)", () -> x.lateOf(-1, -1));
        same("lateOf(0, 1)", x.lateOf(0, 1), 0);
        same("lateOf(0, 0)", x.lateOf(0, 0), -1);
        same("lateOf(0, -6)", x.lateOf(0, -6), -1);
        same("lateOf(0, 366)", x.lateOf(0, 366), -1);
        same("lateOf(0, LEAST)", x.lateOf(0, LEAST), -1);
        same("lateOf(0, MOST)", x.lateOf(0, MOST), -1);
        x.late(0, 0, 5);
        same("late, but no run", x.lateOf(0, 0), -1);
        x.late(0, 1, 180);
        same("lateOf(0, 1)", x.lateOf(0, 1), 180);
        x.except(0, 1, false);
        same("lateOf(0, 1)", x.lateOf(0, 1), -1);
        x.except(0, 1, true);
        same("lateOf(0, 1)", x.lateOf(0, 1), 180);
        x.cancel(0, 1);
        same("lateOf(0, 1)", x.lateOf(0, 1), -1);
        x.late(0, 1, 3);
        same("lateOf(0, 1)", x.lateOf(0, 1), 3);
    }

    private static void departures() {
        WhistleStop x = daily(0, 0);
        fails(INDEX, "departures(2, 0)", () -> x.departures(2, 0));
        fails(INDEX, "departures(-1, -1)", () -> x.departures(-1, -1));
        fails(ARGUMENT, "departures(0, -1)", () -> x.departures(0, -1));
        fails(ARGUMENT, "departures(0, 500001)", () -> x.departures(0, 500001));
        x.addTrip(0, 0, 0, 50);
        same("a trip of one call", x.departures(0, 0), 0);
        x.addCall(0, 0, 60, 70);
        same("a trip of two calls", x.departures(0, 0), 2);
        x.addCall(0, 1, 80, 80);
        same("once for each call", x.departures(0, 0), 4);
        same("not at the last call", x.departures(1, 0), 0);
        same("2880 minutes are counted", x.departures(0, 50), 5);
        same("from the time on", x.departures(0, 51), 4);
        same("yesterday's", x.departures(0, 1440 + 70), 5);
        x.late(0, 0, 180);
        same("a late one", x.departures(0, 220), 6);
        x.cancel(0, 0);
        same("a cancelled one", x.departures(0, 220), 4);
        same("at the end", x.departures(0, 500000), 4);
        x.addTrip(0, 0, 0, 2879);
        x.addCall(1, 1, 2879, 2879);
        x.late(1, 0, 180);
        same("a run that departs two days later", x.departures(0, 2879 + 180), 4 + 3);
        same("the next minute", x.departures(0, 2879 + 181), 4 + 2);
        x.cancel(1, 1);
        same("one of them less", x.departures(0, 2879 + 180), 4 + 2);
        WhistleStop y = daily(0, 0);
        for (int trip = 0; trip < 24; trip++) {
            y.addTrip(0, 0, 0, 0);
            for (int call = 1; call < 8; call++) {
                y.addCall(trip, 0, 2 * call, 2 * call);
            }
        }
        same("a full board", y.departures(0, 0), 24 * 7 * 2 + 24);
    }

    /** A board of stop 0 with all kinds of ties. */
    private static WhistleStop ties() {
        WhistleStop x = daily(0, 0);
        x.addTrip(0, 0, 0, 1500);
        x.addCall(0, 1, 1510, 1510);
        shuttle(x, 0, 0, 60, 1, 100);
        x.addTrip(0, 0, 0, 60);
        x.addCall(2, 0, 60, 60);
        x.addCall(2, 0, 60, 61);
        x.addCall(2, 1, 90, 90);
        return x;
    }

    private static void departsAt() {
        WhistleStop x = ties();
        fails(INDEX, "departsAt(2, 0, 0)", () -> x.departsAt(2, 0, 0));
        fails(INDEX, "departsAt(-1, -1, -1)", () -> x.departsAt(-1, -1, -1));
        fails(ARGUMENT, "departsAt(0, -1, 0)", () -> x.departsAt(0, -1, 0));
        fails(ARGUMENT, "departsAt(0, 500001, 0)", () -> x.departsAt(0, 500001, 0));
        fails(ARGUMENT, "departsAt(0, 0, -1)", () -> x.departsAt(0, 0, -1));
        int[] due = {60, 60, 60, 61, 1500, 1500, 1500, 1500, 1501};
        for (int place = 0; place < due.length; place++) {
            same("departsAt(0, 0, " + place + ")", x.departsAt(0, 0, place), due[place]);
        }
        same("departures", x.departures(0, 0), due.length);
        same("departsAt(0, 0, 9)", x.departsAt(0, 0, 9), -1);
        same("departsAt(0, 0, MOST)", x.departsAt(0, 0, MOST), -1);
        same("departsAt(1, 0, 0)", x.departsAt(1, 0, 0), -1);
        same("departsAt(0, 61, 0)", x.departsAt(0, 61, 0), 61);
        x.late(1, 0, 180);
        same("the late one", x.departsAt(0, 61, 1), 240);
        same("the last time", x.departsAt(0, 500000, 0), 347 * 1440 + 1500);
    }

    private static void tripAt() {
        WhistleStop x = ties();
        fails(INDEX, "tripAt(2, 0, 0)", () -> x.tripAt(2, 0, 0));
        fails(INDEX, "tripAt(-1, -1, -1)", () -> x.tripAt(-1, -1, -1));
        fails(ARGUMENT, "tripAt(0, -1, 0)", () -> x.tripAt(0, -1, 0));
        fails(ARGUMENT, "tripAt(0, 500001, 0)", () -> x.tripAt(0, 500001, 0));
        fails(ARGUMENT, "tripAt(0, 0, -1)", () -> x.tripAt(0, 0, -1));
        int[] due = {1, 2, 2, 2, 0, 1, 2, 2, 2};
        for (int place = 0; place < due.length; place++) {
            same("tripAt(0, 0, " + place + ")", x.tripAt(0, 0, place), due[place]);
        }
        same("tripAt(0, 0, 9)", x.tripAt(0, 0, 9), -1);
        same("tripAt(0, 0, MOST)", x.tripAt(0, 0, MOST), -1);
        same("tripAt(1, 0, 0)", x.tripAt(1, 0, 0), -1);
        x.late(1, 0, 2);
        same("tripAt(0, 0, 3)", x.tripAt(0, 0, 3), 1);
        same("tripAt(0, 0, 2)", x.tripAt(0, 0, 2), 2);
        x.late(1, 0, 1);
        same("a tie of times", x.tripAt(0, 0, 2), 1);
        x.cancel(2, 0);
        same("tripAt(0, 0, 0)", x.tripAt(0, 0, 0), 1);
    }

    private static void earliest() {
        WhistleStop x = line();
        fails(INDEX, "earliest(4, 0, 0)", () -> x.earliest(4, 0, 0));
        fails(INDEX, "earliest(0, 4, 0)", () -> x.earliest(0, 4, 0));
        fails(INDEX, "earliest(-1, 0, -1)", () -> x.earliest(-1, 0, -1));
        fails(INDEX, "earliest(0, -1, 500001)", () -> x.earliest(0, -1, 500001));
        fails(ARGUMENT, "earliest(0, 1, -1)", () -> x.earliest(0, 1, -1));
        fails(ARGUMENT, "earliest(0, 1, 500001)", () -> x.earliest(0, 1, 500001));
        same("from a stop to itself", x.earliest(1, 1, 77), 77);
        same("a ride at T", x.earliest(0, 1, 100), 120);
        same("a ride after T", x.earliest(0, 1, 101), 1560);
        same("rides and a walk", x.earliest(0, 3, 0), 159);
        same("there is no way", x.earliest(2, 0, 0), -1);
        same("a first ride needs no change", x.earliest(1, 2, 127), 150);
        same("a change of 5", x.earliest(0, 2, 100), 150);
        x.setChange(1, 7);
        same("a change of 7", x.earliest(0, 2, 100), 150);
        x.setChange(1, 8);
        same("a change of 8", x.earliest(0, 2, 100), 1590);
        same("the last time", x.earliest(0, 1, 500000), 348 * 1440 + 120);
        earliestOnFoot();
        earliestAtItsLimits();
    }

    private static void earliestOnFoot() {
        WhistleStop x = daily(30, 30, 30, 30);
        shuttle(x, 0, 0, 100, 1, 110);
        x.addFootway(1, 2, 20);
        x.addFootway(2, 3, 5);
        same("no walk behind a walk", x.earliest(1, 3, 0), -1);
        same("no walk behind a walk", x.earliest(0, 3, 0), -1);
        shuttle(x, 0, 2, 130, 3, 140);
        same("no change behind a walk", x.earliest(0, 3, 0), 140);
        shuttle(x, 0, 2, 129, 3, 135);
        same("not ahead of the walk's end", x.earliest(0, 3, 0), 140);
        same("a walk first", x.earliest(1, 3, 110), 140);
        WhistleStop y = daily(5, 5);
        y.addTrip(0, 0, 0, 10);
        y.addCall(0, 0, 20, 24);
        y.addCall(0, 1, 30, 30);
        same("a ride may pass its own stop", y.earliest(0, 1, 0), 30);
        y.addFootway(0, 1, 12);
        same("to walk is faster", y.earliest(0, 1, 10), 22);
        same("to ride is faster", y.earliest(0, 1, 24), 30);
    }

    private static void earliestAtItsLimits() {
        WhistleStop x = withStops(0, 0);
        x.addCalendar(1, 0, 365);
        shuttle(x, 0, 0, 2870, 1, 2879);
        same("T + 2880 is counted", x.earliest(0, 1, 0), 2879);
        x.late(0, 0, 1);
        same("T + 2880 is counted", x.earliest(0, 1, 0), 2880);
        x.late(0, 0, 2);
        same("T + 2881 is too late", x.earliest(0, 1, 0), -1);
        x.late(0, 0, 180);
        same("the latest departure of all", x.earliest(0, 1, 3050), 3059);
        same("a minute behind it", x.earliest(0, 1, 3051), -1);
        WhistleStop y = daily(0, 0, 0, 0, 0, 0, 0, 0);
        for (int stop = 0; stop < 7; stop++) {
            shuttle(y, 1 << stop, stop, 100 + 10 * stop, stop + 1, 110 + 10 * stop);
        }
        same("six rides", y.earliest(0, 6, 0), 160);
        same("seven rides are too many", y.earliest(0, 7, 0), -1);
        y.addFootway(6, 7, 60);
        same("six rides and a walk", y.earliest(0, 7, 0), 220);
        WhistleStop z = daily(0, 0, 0);
        z.addTrip(0, 0, 1, 50);
        z.addCall(0, 2, 50, 50);
        shuttle(z, 0, 0, 50, 1, 50);
        same("rides without a minute", z.earliest(0, 2, 50), 50);
        z.setChange(1, 1);
        same("but for the change", z.earliest(0, 2, 50), 1490);
    }

    private static void withRides() {
        WhistleStop x = daily(1, 1, 1);
        shuttle(x, 0, 0, 100, 1, 110);
        shuttle(x, 0, 1, 111, 2, 120);
        shuttle(x, 0, 0, 100, 2, 130);
        x.addFootway(0, 2, 40);
        fails(INDEX, "withRides(3, 0, 0, 0)", () -> x.withRides(3, 0, 0, 0));
        fails(INDEX, "withRides(0, 3, -1, 7)", () -> x.withRides(0, 3, -1, 7));
        fails(ARGUMENT, "withRides(0, 1, -1, 0)", () -> x.withRides(0, 1, -1, 0));
        fails(ARGUMENT, "withRides(0, 1, 500001, 0)", () -> x.withRides(0, 1, 500001, 0));
        fails(ARGUMENT, "withRides(0, 1, 0, -1)", () -> x.withRides(0, 1, 0, -1));
        fails(ARGUMENT, "withRides(0, 1, 0, 7)", () -> x.withRides(0, 1, 0, 7));
        same("no ride", x.withRides(0, 2, 100, 0), 140);
        same("one ride", x.withRides(0, 2, 100, 1), 130);
        same("two rides", x.withRides(0, 2, 100, 2), 120);
        same("six rides", x.withRides(0, 2, 100, 6), 120);
        same("no way without a ride", x.withRides(0, 1, 100, 0), -1);
        same("to itself", x.withRides(1, 1, 9, 0), 9);
        WhistleStop y = daily(0, 0, 0, 0, 0, 0, 0);
        for (int stop = 0; stop < 6; stop++) {
            shuttle(y, 0, stop, 100 + 10 * stop, stop + 1, 110 + 10 * stop);
            same("all that are needed", y.withRides(0, stop + 1, 0, stop + 1), 110 + 10 * stop);
            same("one too few", y.withRides(0, stop + 1, 0, stop), -1);
        }
    }

    private static void rides() {
        WhistleStop x = daily(1, 1, 1);
        shuttle(x, 0, 0, 100, 1, 110);
        shuttle(x, 0, 1, 111, 2, 130);
        fails(INDEX, "rides(3, 0, 0)", () -> x.rides(3, 0, 0));
        fails(INDEX, "rides(0, -1, -1)", () -> x.rides(0, -1, -1));
        fails(ARGUMENT, "rides(0, 1, -1)", () -> x.rides(0, 1, -1));
        fails(ARGUMENT, "rides(0, 1, 500001)", () -> x.rides(0, 1, 500001));
        same("two", x.rides(0, 2, 0), 2);
        same("no way", x.rides(2, 0, 0), -1);
        same("to itself", x.rides(2, 2, 0), 0);
        shuttle(x, 0, 0, 90, 2, 130);
        same("one, as early", x.rides(0, 2, 0), 1);
        same("it has gone", x.rides(0, 2, 91), 2);
        x.addFootway(0, 2, 30);
        same("none, as early", x.rides(0, 2, 100), 0);
        same("none, earlier", x.rides(0, 2, 99), 0);
    }

    private static void cheapest() {
        WhistleStop x = daily(0, 0, 0);
        shuttle(x, 90, 0, 100, 2, 120);
        shuttle(x, 30, 0, 100, 1, 110);
        shuttle(x, 20, 1, 110, 2, 140);
        shuttle(x, 45, 0, 200, 2, 300);
        fails(INDEX, "cheapest(3, 0, 0, 0)", () -> x.cheapest(3, 0, 0, 0));
        fails(INDEX, "cheapest(0, -1, 5, 4)", () -> x.cheapest(0, -1, 5, 4));
        fails(ARGUMENT, "cheapest(0, 2, -1, 5)", () -> x.cheapest(0, 2, -1, 5));
        fails(ARGUMENT, "cheapest(0, 2, 500001, 500002)", () -> x.cheapest(0, 2, 500001, 500002));
        fails(ARGUMENT, "cheapest(0, 2, 5, 4)", () -> x.cheapest(0, 2, 5, 4));
        fails(ARGUMENT, "cheapest(0, 2, 5, LEAST)", () -> x.cheapest(0, 2, 5, LEAST));
        same("too early", x.cheapest(0, 2, 0, 119), -1);
        same("the dear one", x.cheapest(0, 2, 0, 120), 90);
        same("still", x.cheapest(0, 2, 0, 139), 90);
        same("with a change", x.cheapest(0, 2, 0, 140), 50);
        same("still", x.cheapest(0, 2, 0, 299), 50);
        same("the slow one", x.cheapest(0, 2, 0, 300), 45);
        same("any time", x.cheapest(0, 2, 0, MOST), 45);
        same("at once", x.cheapest(0, 2, 0, 0), -1);
        same("to itself", x.cheapest(1, 1, 8, 8), 0);
        x.addFootway(1, 2, 35);
        same("a walk is free", x.cheapest(0, 2, 0, 145), 30);
        same("a walk alone", x.cheapest(2, 1, 5, 40), 0);
        same("a walk alone, too late", x.cheapest(2, 1, 5, 39), -1);
        cheapestAtItsLimits();
    }

    private static void cheapestAtItsLimits() {
        WhistleStop x = withStops(0, 0);
        x.addCalendar(1, 0, 365);
        shuttle(x, 80, 0, 100, 1, 110);
        shuttle(x, 3, 0, 2870, 1, 2879);
        same("up to T + 2880", x.cheapest(0, 1, 0, MOST), 3);
        x.late(1, 0, 1);
        same("up to T + 2880", x.cheapest(0, 1, 0, MOST), 3);
        x.late(1, 0, 2);
        same("not behind T + 2880", x.cheapest(0, 1, 0, MOST), 80);
        WhistleStop y = daily(0, 0, 0, 0, 0, 0, 0, 0);
        for (int stop = 0; stop < 7; stop++) {
            shuttle(y, 1, stop, 100 + 10 * stop, stop + 1, 110 + 10 * stop);
        }
        shuttle(y, 400, 0, 100, 7, 110);
        same("six rides", y.cheapest(0, 6, 0, MOST), 6);
        same("seven rides are too many", y.cheapest(0, 7, 0, MOST), 400);
        WhistleStop z = daily(5, 5, 5);
        z.addTrip(0, 10, 0, 10);
        z.addCall(0, 1, 20, 24);
        z.addCall(0, 2, 30, 30);
        same("one ride costs one price", z.cheapest(0, 2, 0, MOST), 10);
        WhistleStop w = daily(0, 0, 0);
        shuttle(w, 1, 0, 10, 1, 50);
        shuttle(w, 2, 1, 50, 2, 50);
        same("a ride without a minute", w.cheapest(0, 2, 0, 50), 3);
        w.setChange(1, 1);
        same("but for the change", w.cheapest(0, 2, 0, 50), -1);
        cheapestOfMany();
    }

    /** What arrives at 1 later is cheaper; one can go on from there each 60 minutes. */
    private static void cheapestOfMany() {
        WhistleStop x = daily(0, 0, 0);
        for (int trip = 0; trip < 22; trip++) {
            shuttle(x, 400 - 10 * trip, 0, 100, 1, 110 + 10 * trip);
        }
        x.addTrip(0, 1, 1, 110);
        for (int call = 0; call < 7; call++) {
            x.addCall(22, call % 2 == 0 ? 2 : 1, 120 + 30 * call, 140 + 30 * call);
        }
        int[][] due = {{119, -1}, {120, 401}, {179, 401}, {180, 401 - 60}, {239, 401 - 60}, {240, 401 - 120},
            {299, 401 - 120}, {300, 401 - 180}, {1559, 401 - 180}, {1560, 401 - 210}, {MOST, 401 - 210}};
        for (int[] each : due) {
            same("cheapest(0, 2, 0, " + each[0] + ")", x.cheapest(0, 2, 0, each[0]), each[1]);
        }
        same("again", x.cheapest(0, 1, 0, 250), 400 - 140);
        same("again", x.cheapest(0, 1, 0, MOST), 400 - 210);
    }

    private static void latest() {
        WhistleStop x = line();
        fails(INDEX, "latest(4, 0, 0)", () -> x.latest(4, 0, 0));
        fails(INDEX, "latest(0, -1, -1)", () -> x.latest(0, -1, -1));
        fails(ARGUMENT, "latest(0, 1, -1)", () -> x.latest(0, 1, -1));
        fails(ARGUMENT, "latest(0, 1, 500001)", () -> x.latest(0, 1, 500001));
        same("to itself", x.latest(2, 2, 99), 99);
        same("to itself at 0", x.latest(2, 2, 0), 0);
        same("just in time", x.latest(0, 3, 159), 100);
        same("a minute less", x.latest(0, 3, 158), -1);
        same("a minute less, the day behind", x.latest(0, 3, 1598), 100);
        same("the next day", x.latest(0, 3, 1599), 1540);
        same("on foot", x.latest(2, 3, 59), 50);
        same("on foot from 0", x.latest(2, 3, 9), 0);
        same("on foot, too short", x.latest(2, 3, 8), -1);
        same("no way", x.latest(3, 0, 500000), -1);
        same("a walk first", x.latest(3, 2, 500000), 499991);
        shuttle(x, 0, 2, 180, 0, 200);
        same("a walk and a ride", x.latest(3, 0, 200), 171);
        x.setChange(1, 8);
        same("a missed change", x.latest(0, 2, 1500), -1);
        same("it departs the day ahead", x.latest(0, 2, 1590), 100);
        latestFarBack();
    }

    private static void latestFarBack() {
        WhistleStop x = withStops(0, 0, 0, 0);
        x.addCalendar(1, 0, 0);
        x.addCalendar(127, 0, 365);
        shuttle(x, 0, 0, 700, 1, 710);
        same("a year back", x.latest(0, 1, 500000), 700);
        int slow = x.addTrip(1, 0, 0, 0);
        x.addCall(slow, 2, 1430, 1430);
        int slower = x.addTrip(1, 0, 2, 1425);
        x.addCall(slower, 1, 2879, 2879);
        same("what takes 2880 minutes at most", x.latest(0, 1, 500000), 700);
        x.late(slow, 3, 30);
        x.cancel(slower, 4);
        x.late(slower, 3, 180);
        same("which is too long still", x.latest(0, 1, 500000), 700);
        WhistleStop y = withStops(0, 0);
        y.addCalendar(127, 0, 365);
        y.addTrip(0, 0, 0, 1);
        y.addCall(0, 1, 2879, 2879);
        same("one that takes 2878 minutes", y.latest(0, 1, 500000), 345 * 1440 + 1);
        WhistleStop z = daily(0, 0);
        shuttle(z, 0, 0, 5, 1, 10);
        z.addStop(0);
        z.addFootway(0, 2, 8);
        same("not ahead of 0", z.latest(2, 1, 1449), -1);
        same("the day behind", z.latest(2, 1, 1450), 1437);
        latestOfLongJourneys();
    }

    private static void latestOfLongJourneys() {
        WhistleStop x = withStops(0, 0, 0, 0);
        x.addCalendar(127, 0, 0);
        shuttle(x, 0, 0, 0, 1, 0);
        shuttle(x, 0, 1, 10, 2, 2879);
        x.addFootway(2, 3, 1);
        same("all of 2880 minutes", x.latest(0, 3, 2880), 0);
        same("a minute less", x.latest(0, 3, 2879), -1);
        for (int at = 2880; at < 9000; at++) {
            same("latest(0, 3, " + at + ")", x.latest(0, 3, at), 0);
        }
        same("a year later", x.latest(0, 3, 500000), 0);
        x.late(1, 0, 1);
        same("2881 minutes", x.latest(0, 3, 500000), -1);
        x.late(0, 0, 1);
        same("2880 minutes again", x.latest(0, 3, 500000), 1);
        shuttle(x, 0, 0, 0, 2, 2000);
        same("a long one hides a shorter one", x.latest(0, 3, 500000), 1);
        x.late(1, 0, 2);
        same("a shorter one", x.latest(0, 3, 500000), 0);
    }

    private static void reached() {
        WhistleStop x = line();
        fails(INDEX, "reached(4, 0, 0)", () -> x.reached(4, 0, 0));
        fails(INDEX, "reached(-1, -1, -1)", () -> x.reached(-1, -1, -1));
        fails(ARGUMENT, "reached(0, -1, 0)", () -> x.reached(0, -1, 0));
        fails(ARGUMENT, "reached(0, 500001, 0)", () -> x.reached(0, 500001, 0));
        fails(ARGUMENT, "reached(0, 0, -1)", () -> x.reached(0, 0, -1));
        fails(ARGUMENT, "reached(0, 0, 2881)", () -> x.reached(0, 0, 2881));
        same("itself", x.reached(0, 0, 0), 1);
        same("not yet", x.reached(0, 100, 19), 1);
        same("one more", x.reached(0, 100, 20), 2);
        same("not yet", x.reached(0, 100, 49), 2);
        same("one more", x.reached(0, 100, 50), 3);
        same("not yet", x.reached(0, 100, 58), 3);
        same("all", x.reached(0, 100, 59), 4);
        same("all", x.reached(0, 100, 2880), 4);
        same("on foot", x.reached(3, 0, 9), 2);
        same("too far", x.reached(3, 0, 8), 1);
        same("the last time", x.reached(0, 500000, 2880), 4);
    }

    private static void find() {
        WhistleStop x = line();
        fails(INDEX, "find(4, 0, 0)", () -> x.find(4, 0, 0));
        fails(INDEX, "find(0, -1, -1)", () -> x.find(0, -1, -1));
        fails(ARGUMENT, "find(0, 1, -1)", () -> x.find(0, 1, -1));
        fails(ARGUMENT, "find(0, 1, 500001)", () -> x.find(0, 1, 500001));
        same("find(0, 3, 0)", x.find(0, 3, 0), 3);
        same("its legs", journeyOf(x), "0 to 1 100-120; 1 to 2 127-150; -1 to 3 150-159");
        fails(INDEX, "find(4, 0, 0)", () -> x.find(4, 0, 0));
        fails(ARGUMENT, "find(0, 1, -1)", () -> x.find(0, 1, -1));
        same("a wrong one changes nothing", x.legs(), 3);
        same("find(3, 0, 0)", x.find(3, 0, 0), -1);
        same("none is kept", x.legs(), -1);
        same("find(3, 3, 0)", x.find(3, 3, 0), 0);
        same("one without legs is kept", x.price(), 0);
        same("find(3, 2, 7)", x.find(3, 2, 7), 1);
        same("its legs", journeyOf(x), "-1 to 2 7-16");
        findAmongSeveral();
        findAmongCalls();
    }

    private static void findAmongSeveral() {
        WhistleStop x = daily(0, 0, 0, 0);
        shuttle(x, 0, 0, 100, 1, 120);
        shuttle(x, 0, 0, 90, 2, 110);
        shuttle(x, 0, 2, 150, 3, 200);
        shuttle(x, 0, 1, 140, 3, 200);
        x.find(0, 3, 0);
        same("the smaller trip first", journeyOf(x), "0 to 1 100-120; 3 to 3 140-200");
        shuttle(x, 0, 0, 50, 3, 200);
        x.find(0, 3, 0);
        same("as few rides as can be", journeyOf(x), "4 to 3 50-200");
        shuttle(x, 0, 0, 70, 3, 199);
        x.find(0, 3, 0);
        same("the earliest", journeyOf(x), "5 to 3 70-199");
        WhistleStop y = daily(0, 0, 0);
        y.addFootway(0, 1, 10);
        y.addFootway(1, 0, 10);
        y.addFootway(0, 2, 10);
        shuttle(y, 0, 1, 30, 2, 60);
        shuttle(y, 0, 0, 20, 1, 55);
        y.addFootway(1, 2, 5);
        y.find(0, 2, 0);
        same("a walk alone", journeyOf(y), "-1 to 2 0-10");
        WhistleStop z = daily(0, 0, 0);
        shuttle(z, 0, 1, 30, 2, 60);
        shuttle(z, 0, 0, 20, 1, 55);
        z.addFootway(0, 1, 10);
        z.addFootway(1, 2, 5);
        z.find(0, 2, 0);
        same("rides are ahead of walks", journeyOf(z), "1 to 1 20-55; -1 to 2 55-60");
        WhistleStop w = daily(0, 0, 0);
        w.addFootway(0, 1, 12);
        w.addFootway(1, 0, 10);
        shuttle(w, 0, 1, 30, 2, 60);
        w.find(0, 2, 0);
        same("the smaller footway", journeyOf(w), "-1 to 1 0-12; 0 to 2 30-60");
        w.find(0, 2, 19);
        same("the one in time", journeyOf(w), "-1 to 1 19-29; 0 to 2 30-60");
    }

    private static void findAmongCalls() {
        WhistleStop x = daily(0, 0, 0);
        x.addTrip(0, 0, 0, 10);
        x.addCall(0, 1, 20, 20);
        x.addCall(0, 0, 30, 30);
        x.addCall(0, 1, 40, 40);
        x.addCall(0, 2, 50, 50);
        x.find(0, 2, 0);
        same("from the smaller call", journeyOf(x), "0 to 2 10-50");
        x.find(0, 2, 11);
        same("from the call that is not gone", journeyOf(x), "0 to 2 30-50");
        x.addTrip(0, 0, 1, 44);
        x.addCall(1, 2, 48, 48);
        x.find(0, 2, 0);
        same("to the smaller call", journeyOf(x), "0 to 1 10-20; 1 to 2 44-48");
        WhistleStop y = withStops(0, 0);
        y.addCalendar(127, 0, 1);
        y.addTrip(0, 0, 0, 100);
        y.addCall(0, 0, 1540, 1540);
        y.addCall(0, 1, 1640, 1640);
        y.except(0, 0, false);
        y.except(0, 0, true);
        y.find(0, 1, 1540);
        same("yesterday's run", journeyOf(y), "0 to 1 1540-1640");
        WhistleStop z = withStops(0, 0, 0);
        z.addCalendar(127, 0, 1);
        z.addTrip(0, 0, 0, 1450);
        z.addCall(0, 1, 1500, 1500);
        z.late(0, 0, 0);
        shuttle(z, 0, 1, 2870, 2, 2879);
        z.late(1, 0, 180);
        z.cancel(1, 1);
        z.find(0, 2, 1440);
        same("the run of the earlier day", journeyOf(z), "0 to 1 1450-1500; 1 to 2 3050-3059");
    }

    private static void legs() {
        WhistleStop x = line();
        same("none", x.legs(), -1);
        x.find(0, 3, 0);
        same("three", x.legs(), 3);
        x.find(0, 1, 0);
        same("one", x.legs(), 1);
        x.find(0, 0, 0);
        same("without legs", x.legs(), 0);
        x.find(3, 0, 0);
        same("none again", x.legs(), -1);
        WhistleStop y = daily(0, 0, 0, 0, 0, 0, 0, 0, 0, 0, 0, 0, 0, 0);
        for (int stop = 0; stop < 13; stop++) {
            if (stop % 2 == 0) {
                y.addFootway(stop, stop + 1, 10);
            } else {
                shuttle(y, 0, stop, 10 * stop, stop + 1, 10 * stop + 10);
            }
        }
        same("thirteen legs", y.find(0, 13, 0), 13);
        same("thirteen legs", y.legs(), 13);
        same("its end", y.legEnd(12), 130);
    }

    private static void legTrip() {
        WhistleStop x = line();
        fails(STATE, "legTrip(0)", () -> x.legTrip(0));
        fails(STATE, "legTrip(-1)", () -> x.legTrip(-1));
        x.find(0, 3, 0);
        same("legTrip(0)", x.legTrip(0), 0);
        same("legTrip(1)", x.legTrip(1), 1);
        same("legTrip(2)", x.legTrip(2), -1);
        fails(INDEX, "legTrip(3)", () -> x.legTrip(3));
        fails(INDEX, "legTrip(-1)", () -> x.legTrip(-1));
        fails(INDEX, "legTrip(MOST)", () -> x.legTrip(MOST));
        x.find(0, 0, 0);
        fails(INDEX, "legTrip(0)", () -> x.legTrip(0));
        x.find(3, 0, 0);
        fails(STATE, "legTrip(0)", () -> x.legTrip(0));
    }

    private static void legTo() {
        WhistleStop x = line();
        fails(STATE, "legTo(0)", () -> x.legTo(0));
        x.find(0, 3, 0);
        same("legTo(0)", x.legTo(0), 1);
        same("legTo(1)", x.legTo(1), 2);
        same("legTo(2)", x.legTo(2), 3);
        fails(INDEX, "legTo(3)", () -> x.legTo(3));
        fails(INDEX, "legTo(-1)", () -> x.legTo(-1));
        fails(INDEX, "legTo(LEAST)", () -> x.legTo(LEAST));
        x.find(3, 0, 0);
        fails(STATE, "legTo(-1)", () -> x.legTo(-1));
    }

    private static void legBegin() {
        WhistleStop x = line();
        fails(STATE, "legBegin(0)", () -> x.legBegin(0));
        x.late(0, 0, 2);
        x.find(0, 3, 0);
        same("legBegin(0)", x.legBegin(0), 102);
        same("legBegin(1)", x.legBegin(1), 127);
        same("legBegin(2)", x.legBegin(2), 150);
        fails(INDEX, "legBegin(3)", () -> x.legBegin(3));
        fails(INDEX, "legBegin(-1)", () -> x.legBegin(-1));
        x.late(0, 0, 40);
        x.cancel(1, 0);
        same("as it was when it was found", x.legBegin(0), 102);
        same("as it was when it was found", x.legBegin(1), 127);
        x.find(2, 3, 44);
        same("a walk begins at T", x.legBegin(0), 44);
        x.find(3, 0, 0);
        fails(STATE, "legBegin(0)", () -> x.legBegin(0));
    }

    private static void legEnd() {
        WhistleStop x = line();
        fails(STATE, "legEnd(0)", () -> x.legEnd(0));
        x.late(1, 0, 3);
        x.find(0, 3, 0);
        same("legEnd(0)", x.legEnd(0), 120);
        same("legEnd(1)", x.legEnd(1), 153);
        same("legEnd(2)", x.legEnd(2), 162);
        fails(INDEX, "legEnd(3)", () -> x.legEnd(3));
        fails(INDEX, "legEnd(-1)", () -> x.legEnd(-1));
        x.late(1, 0, 40);
        same("as it was when it was found", x.legEnd(2), 162);
        x.find(3, 0, 0);
        fails(STATE, "legEnd(0)", () -> x.legEnd(0));
    }

    private static void slack() {
        WhistleStop x = line();
        fails(STATE, "slack()", x::slack);
        x.find(0, 3, 0);
        same("127 - 120 - 5", x.slack(), 2);
        x.setChange(1, 6);
        same("as it was when it was found", x.slack(), 2);
        x.find(0, 3, 0);
        same("127 - 120 - 6", x.slack(), 1);
        x.setChange(1, 7);
        x.find(0, 3, 0);
        same("127 - 120 - 7", x.slack(), 0);
        x.find(0, 1, 0);
        same("the first leg alone", x.slack(), -1);
        x.find(2, 3, 0);
        same("a walk alone", x.slack(), -1);
        x.find(1, 1, 0);
        same("without legs", x.slack(), -1);
        shuttle(x, 0, 2, 170, 0, 180);
        x.find(3, 0, 100);
        same("a walk needs no change", x.slack(), 170 - 109);
        shuttle(x, 0, 0, 190, 3, 200);
        x.find(1, 3, 127);
        same("a walk at the end", x.slack(), -1);
        x.setChange(2, 11);
        x.find(1, 0, 127);
        same("one ride", x.slack(), 170 - 150 - 11);
        WhistleStop y = daily(3, 3, 3, 3);
        shuttle(y, 0, 0, 10, 1, 20);
        shuttle(y, 0, 1, 30, 2, 40);
        shuttle(y, 0, 2, 45, 3, 50);
        y.find(0, 3, 0);
        same("the least one", y.slack(), 2);
        y.cancel(2, 0);
        shuttle(y, 0, 2, 60, 3, 70);
        y.find(0, 3, 0);
        same("the least one is ahead", y.slack(), 7);
        y.find(3, 0, 0);
        fails(STATE, "slack()", y::slack);
    }

    private static void price() {
        WhistleStop x = line();
        fails(STATE, "price()", x::price);
        x.find(0, 3, 0);
        same("both prices", x.price(), 42);
        x.find(1, 3, 0);
        same("one price", x.price(), 12);
        x.find(2, 3, 0);
        same("a walk is free", x.price(), 0);
        x.find(2, 2, 0);
        same("without legs", x.price(), 0);
        x.find(3, 0, 0);
        fails(STATE, "price()", x::price);
    }

    private static void holds() {
        WhistleStop x = line();
        fails(STATE, "holds()", x::holds);
        x.find(0, 3, 100);
        same("at once", x.holds(), true);
        x.late(0, 0, 2);
        same("the change is just met", x.holds(), true);
        x.late(0, 0, 3);
        same("the change is missed", x.holds(), false);
        x.late(1, 0, 1);
        same("it waits", x.holds(), true);
        x.setChange(1, 6);
        same("the change is longer", x.holds(), false);
        x.setChange(1, 5);
        x.setChange(2, 30);
        same("a walk needs no change", x.holds(), true);
        x.cancel(1, 0);
        same("cancelled", x.holds(), false);
        x.late(1, 0, 180);
        same("late in place of cancelled", x.holds(), true);
        x.except(0, 0, false);
        same("its calendar does not run", x.holds(), false);
        x.except(0, 0, true);
        same("its calendar runs again", x.holds(), true);
        x.addCall(1, 0, 200, 200);
        same("another call", x.holds(), true);
        x.find(3, 0, 499999);
        x.find(3, 3, 5);
        same("without legs", x.holds(), true);
        holdsAtItsLimits();
    }

    private static void holdsAtItsLimits() {
        WhistleStop x = withStops(0, 0, 0);
        x.addCalendar(127, 0, 0);
        shuttle(x, 0, 0, 100, 1, 2870);
        x.addFootway(1, 2, 5);
        x.late(0, 0, 10);
        x.find(0, 2, 105);
        same("at once", x.holds(), true);
        x.late(0, 0, 5);
        same("it departs at T", x.holds(), true);
        x.late(0, 0, 4);
        same("it departs ahead of T", x.holds(), false);
        x.late(0, 0, 110);
        same("it ends at T + 2880", x.holds(), true);
        x.late(0, 0, 111);
        same("it ends behind T + 2880", x.holds(), false);
        WhistleStop y = daily(30, 30, 30);
        y.addFootway(0, 1, 10);
        shuttle(y, 0, 1, 50, 2, 60);
        y.find(0, 2, 40);
        same("just met on foot", y.holds(), true);
        y.late(0, 0, 1);
        same("later", y.holds(), true);
        y.find(0, 2, 41);
        y.late(0, 0, 0);
        same("missed on foot", y.holds(), false);
    }

    private static void earliestIf() {
        WhistleStop x = line();
        fails(STATE, "earliestIf(0, 0, 0)", () -> x.earliestIf(0, 0, 0));
        fails(STATE, "earliestIf(9, -1, 181)", () -> x.earliestIf(9, -1, 181));
        x.find(0, 3, 0);
        fails(INDEX, "earliestIf(2, 0, 0)", () -> x.earliestIf(2, 0, 0));
        fails(INDEX, "earliestIf(-1, -1, 0)", () -> x.earliestIf(-1, -1, 0));
        fails(ARGUMENT, "earliestIf(0, -1, 0)", () -> x.earliestIf(0, -1, 0));
        fails(ARGUMENT, "earliestIf(0, 366, 0)", () -> x.earliestIf(0, 366, 0));
        fails(ARGUMENT, "earliestIf(0, 0, -1)", () -> x.earliestIf(0, 0, -1));
        fails(ARGUMENT, "earliestIf(0, 0, 181)", () -> x.earliestIf(0, 0, 181));
        same("as it is", x.earliestIf(0, 0, 0), 159);
        same("the change is just met", x.earliestIf(0, 0, 2), 159);
        same("the change is missed", x.earliestIf(0, 0, 3), 1599);
        same("the second one is late", x.earliestIf(1, 0, 180), 339);
        same("nothing is changed", x.lateOf(0, 0), 0);
        same("nothing is changed", x.lateOf(1, 0), 0);
        same("nothing is changed", x.earliest(0, 3, 0), 159);
        x.late(0, 0, 9);
        same("less late than it is", x.earliestIf(0, 0, 1), 159);
        same("still as late", x.lateOf(0, 0), 9);
        x.cancel(0, 0);
        same("as if it ran", x.earliestIf(0, 0, 0), 159);
        same("still cancelled", x.lateOf(0, 0), -1);
        same("still cancelled", x.late(0, 0, 0), -1);
        x.except(0, 0, false);
        same("its calendar does not run", x.earliestIf(0, 0, 0), 1599);
        x.except(0, 1, false);
        x.except(0, 2, false);
        same("no way", x.earliestIf(0, 0, 0), -1);
        same("legs are kept", x.legs(), 3);
        x.find(2, 2, 17);
        same("without legs", x.earliestIf(0, 0, 0), 17);
        x.find(0, 3, 0);
        fails(STATE, "none is kept", () -> x.earliestIf(0, 0, 0));
    }

    private static void moving() {
        WhistleStop x = line();
        same("none is kept", x.moving(), 0.0);
        x.find(0, 3, 90);
        same("43 of 69", x.moving(), 43.0 / 69.0);
        x.find(0, 3, 100);
        same("43 of 59", x.moving(), 43.0 / 59.0);
        x.late(0, 0, 180);
        same("as it was when it was found", x.moving(), 43.0 / 59.0);
        x.find(2, 3, 0);
        same("a walk alone", x.moving(), 0.0);
        x.find(2, 2, 0);
        same("without legs", x.moving(), 0.0);
        x.find(1, 2, 127);
        same("all of it", x.moving(), 1.0);
        WhistleStop y = daily(0, 0);
        shuttle(y, 0, 0, 10, 1, 10);
        y.find(0, 1, 10);
        same("no minute", y.moving(), 0.0);
        y.find(0, 1, 9);
        same("no minute of one", y.moving(), 0.0);
        y.find(1, 0, 0);
        same("none again", y.moving(), 0.0);
    }

    private static void digest() {
        WhistleStop x = line();
        x.late(1, 6, 8);
        x.cancel(0, 3);
        x.late(0, 7, 5);
        same("none is kept", x.digest(), digestOf(x));
        x.find(0, 3, 100);
        same("one is kept", x.digest(), digestOf(x));
        long before = x.digest();
        x.late(0, 0, 100);
        same("it does not hold", x.digest(), digestOf(x));
        same("which is told", before == x.digest(), false);
        x.find(0, 0, 0);
        same("without legs", x.digest(), digestOf(x));
        long sum = 2503;
        int[] row = {4, 2, 2, 0, 1, 2, 1, 2, 100, 0, 0, -1, 0, 0, 0, 0, 0, 0, 0, 0, 0, 8, 0, -1, 0, 1};
        for (int each : row) {
            sum = sum * 31 + each;
        }
        same("the row itself", x.digest(), sum);
        fails(ARGUMENT, "late(0, 0, 181)", () -> x.late(0, 0, 181));
        same("a wrong call changes nothing", x.digest(), sum);
    }

    private static long digestOf(WhistleStop x) {
        long sum = 2503L * 31 + x.stops();
        sum = sum * 31 + x.trips();
        for (int trip = 0; trip < x.trips(); trip++) {
            sum = sum * 31 + x.calls(trip);
            for (int call = 0; call < x.calls(trip); call++) {
                sum = sum * 31 + x.stopOf(trip, call);
            }
        }
        for (int trip = 0; trip < x.trips(); trip++) {
            for (int day = 0; day <= 6; day++) {
                sum = sum * 31 + x.lateOf(trip, day);
            }
        }
        sum = sum * 31 + x.legs();
        if (x.legs() < 0) {
            return sum;
        }
        for (int leg = 0; leg < x.legs(); leg++) {
            sum = sum * 31 + x.legTrip(leg);
            sum = sum * 31 + x.legTo(leg);
            sum = sum * 31 + x.legBegin(leg);
            sum = sum * 31 + x.legEnd(leg);
        }
        sum = sum * 31 + x.slack();
        sum = sum * 31 + x.price();
        return sum * 31 + (x.holds() ? 1 : 0);
    }
}
