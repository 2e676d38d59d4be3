import java.lang.reflect.Method;
import java.util.Arrays;

/** A test for each sentence on stops, footways, calendars, trips, and what is late: sections 1, 2, promises 1 to 16. */
public final class TimetableSentencesTest {
    private static final int LEAST = Sentences.LEAST;
    private static final int MOST = Sentences.MOST;
    private static final Class<IndexOutOfBoundsException> INDEX = Sentences.INDEX;
    private static final Class<IllegalArgumentException> ARGUMENT = Sentences.ARGUMENT;
    private static final Class<IllegalStateException> STATE = Sentences.STATE;

    private static final Sentences DOC = new Sentences();

    public static void main(String[] args) {
        whatItIs();
        terms();
        stopsAndTrips();
        runs();
        newObject();
        addStop();
        setChange();
        addFootway();
        addCalendar();
        except();
        runsOn();
        addTrip();
        addCall();
        stopsAndTripsAndCalls();
        stopOf();
        late();
        cancel();
        lateOf();
        DOC.end("What it is", "Terms", "1. Stops and trips", "2. Runs", "Promise 1: A new object",
            "Promise 2: addStop", "Promise 3: setChange", "Promise 4: addFootway", "Promise 5: addCalendar",
            "Promise 6: except", "Promise 7: runsOn", "Promise 8: addTrip", "Promise 9: addCall", "Promise 10: stops",
            "Promise 11: trips", "Promise 12: calls", "Promise 13: stopOf", "Promise 14: late", "Promise 15: cancel",
            "Promise 16: lateOf");
    }

    private static void whatItIs() {
        DOC.in("What it is");
        DOC.says("A timetable finder.", () -> {
            WhistleStop x = Timetables.line();
            DOC.same("find(0, 3, 0)", x.find(0, 3, 0), 3);
        });
        DOC.says("An object is used for at most 512 calls after it has been made; what later calls answer is free.",
            () -> {
                WhistleStop x = Timetables.line();
                for (int call = 10; call < 512; call++) {
                    DOC.same("the call " + call, x.earliest(0, 3, call % 101), 159);
                }
                DOC.same("the call 512", x.find(0, 3, 100), 3);
            });
    }

    private static void terms() {
        DOC.in("Terms");
        DOC.says("Its calls: stops, footways, calendars and trips are told; trips come late or are cancelled on some "
            + "days; and then one asks what leaves a stop, when one gets somewhere at the earliest, how often one has "
            + "to change, what it costs at least, when one has to leave at the latest, how far one comes, by which "
            + "legs, and what becomes of that if something is late.", TimetableSentencesTest::allOfIt);
        DOC.says("All numbers are whole, if nothing else is said.", () -> {
            for (Method method : WhistleStop.class.getDeclaredMethods()) {
                Class<?> type = method.getReturnType();
                boolean isWhole = type == int.class || type == long.class || type == boolean.class;
                boolean isFace = java.lang.reflect.Modifier.isPublic(method.getModifiers());
                DOC.same(method + " is whole", !isFace || isWhole, !method.getName().equals("moving"));
            }
        });
        DOC.says("A time is told in minutes, from 0 on;", () -> {
            WhistleStop x = Timetables.daily(0, 0);
            Timetables.shuttle(x, 0, 0, 0, 1, 0);
            DOC.same("from 0", x.earliest(0, 1, 0), 0);
            DOC.same("departs at 0", x.departsAt(0, 0, 0), 0);
            DOC.refuses(ARGUMENT, "at -1", () -> x.earliest(0, 1, -1));
        });
        DOC.says("the day d is from 1440 * d up to 1440 * d + 1440 (not counted).", () -> {
            WhistleStop x = Timetables.on(3, 3, 0, 0);
            Timetables.shuttle(x, 0, 0, 0, 1, 1);
            Timetables.shuttle(x, 0, 0, 1439, 1, 1440);
            DOC.same("the first minute", x.departsAt(0, 4319, 0), 4320);
            DOC.same("the last minute", x.departsAt(0, 4321, 0), 5759);
            DOC.same("and no other", x.departures(0, 4320), 2);
        });
        DOC.says("Days are 0 to 365;", () -> {
            WhistleStop x = Timetables.daily(0);
            x.addTrip(0, 0, 0, 0);
            DOC.same("runsOn(0, 0)", x.runsOn(0, 0), true);
            DOC.same("runsOn(0, 365)", x.runsOn(0, 365), true);
            DOC.same("late(0, 0, 1)", x.late(0, 0, 1), 0);
            DOC.same("late(0, 365, 1)", x.late(0, 365, 1), 0);
            DOC.refusesEach(ARGUMENT, "late on a day", day -> x.late(0, day, 1), -1, 366);
        });
        DOC.says("the day 0 is a Monday.", () -> {
            WhistleStop x = Timetables.withStops(0);
            x.addCalendar(1, 0, 365);
            for (int day = 0; day <= 365; day++) {
                DOC.same("runsOn(0, " + day + ")", x.runsOn(0, day), day % 7 == 0);
            }
        });
    }

    private static void allOfIt() {
        WhistleStop x = Timetables.line();
        DOC.same("late(1, 1, 20)", x.late(1, 1, 20), 0);
        DOC.same("cancel(1, 0)", x.cancel(1, 0), true);
        DOC.same("departures(1, 120)", x.departures(1, 120), 1);
        DOC.same("earliest(0, 3, 100)", x.earliest(0, 3, 100), 1619);
        DOC.same("rides(0, 3, 100)", x.rides(0, 3, 100), 2);
        DOC.same("cheapest(0, 3, 100, 1619)", x.cheapest(0, 3, 100, 1619), 42);
        DOC.same("latest(0, 3, 1619)", x.latest(0, 3, 1619), 1540);
        DOC.same("reached(0, 100, 20)", x.reached(0, 100, 20), 2);
        DOC.same("find(0, 3, 100)", x.find(0, 3, 100), 3);
        DOC.same("its legs", Timetables.journeyOf(x), "0 to 1 100-120; 1 to 2 1587-1610; -1 to 3 1610-1619");
        DOC.same("earliestIf(1, 0, 0)", x.earliestIf(1, 0, 0), 159);
        DOC.same("holds()", x.holds(), true);
    }

    private static void stopsAndTrips() {
        DOC.in("1. Stops and trips");
        DOC.says("At most 16 stops, numbered from 0; each has a CHANGE, 0 to 30 minutes.", () -> {
            WhistleStop x = Timetables.daily(new int[16]);
            for (int stop = 0; stop < 16; stop++) {
                DOC.same("earliest(" + stop + ")", x.earliest(stop, stop, 5), 5);
            }
            DOC.refusesEach(INDEX, "earliest from", stop -> x.earliest(stop, 0, 5), -1, 16);
            Timetables.shuttle(x, 0, 0, 10, 1, 20);
            Timetables.shuttle(x, 0, 1, 20, 2, 30);
            Timetables.shuttle(x, 0, 1, 50, 2, 60);
            DOC.same("a CHANGE of 0", x.earliest(0, 2, 0), 30);
            x.setChange(1, 30);
            DOC.same("a CHANGE of 30", x.earliest(0, 2, 0), 60);
        });
        DOC.says("At most 20 footways, numbered from 0: each joins two different stops, and takes 1 to 60 minutes, "
            + "both ways; there can be several between the same stops.", () -> {
                WhistleStop x = Timetables.daily(0, 0, 0);
                for (int number = 0; number < 20; number++) {
                    DOC.same("addFootway", x.addFootway(number % 2, 1 - number % 2, 60 - 3 * number), number);
                    DOC.same("there", x.earliest(0, 1, 7), 67 - 3 * number);
                    DOC.same("back", x.earliest(1, 0, 7), 67 - 3 * number);
                }
                DOC.same("to another stop", x.earliest(0, 2, 7), -1);
            });
        DOC.says("At most 6 calendars, numbered from 0: each has a set of weekdays (the sum of 1 << k, with k 0 for "
            + "Monday), a first and a last day, and exceptions: days on which it runs though it would not, or does not "
            + "though it would.", TimetableSentencesTest::sixCalendars);
        DOC.says("It runs on a day, if that is told by an exception; without one for this day, if the day is not ahead "
            + "of the first one, nor behind the last one, and its weekday is in the set.", () -> {
                WhistleStop x = Timetables.withStops(0);
                x.addCalendar(4, 9, 16);
                same(x, 0, new int[] {9, 16});
                x.addCalendar(4, 10, 15);
                same(x, 1, new int[] {});
                x.except(1, 9, true);
                x.except(1, 16, true);
                x.except(1, 11, true);
                same(x, 1, new int[] {9, 11, 16});
                x.except(0, 9, false);
                x.except(0, 10, false);
                same(x, 0, new int[] {16});
            });
        DOC.says("At most 24 trips, numbered from 0: each has a calendar, a price, 0 to 500, and 1 to 8 calls, "
            + "numbered from 0: a stop, a minute at which it arrives there, and one at which it departs, told from "
            + "the beginning of its day, 0 to 2879.", TimetableSentencesTest::fullTrips);
        DOC.says("Of the first call the minute of arriving is that of departing.", () -> {
            WhistleStop x = Timetables.daily(0, 0);
            x.addTrip(0, 0, 0, 50);
            DOC.refuses(ARGUMENT, "ahead of it", () -> x.addCall(0, 1, 49, 60));
            DOC.same("at the same minute", x.addCall(0, 1, 50, 50), 1);
            DOC.same("a ride of no minute", x.earliest(0, 1, 50), 50);
        });
        DOC.says("No call arrives ahead of the departing of the call ahead, nor departs ahead of its arriving.", () -> {
            WhistleStop x = Timetables.daily(0, 0);
            x.addTrip(0, 0, 0, 50);
            x.addCall(0, 1, 60, 70);
            DOC.refuses(ARGUMENT, "arrives ahead of the departing", () -> x.addCall(0, 0, 69, 80));
            DOC.refuses(ARGUMENT, "departs ahead of its arriving", () -> x.addCall(0, 0, 70, 69));
            DOC.same("arrives at the departing, departs at its arriving", x.addCall(0, 0, 70, 70), 2);
        });
        DOC.says("Two calls of a trip can be at the same stop.", () -> {
            WhistleStop x = Timetables.daily(0, 0);
            Timetables.row(x, 10, 0, 0, 1, 0, 1);
            DOC.same("departures(0, 0)", x.departures(0, 0), 6);
            DOC.same("from the first call", x.earliest(0, 1, 10), 30);
            DOC.same("from the second call", x.earliest(0, 1, 20), 30);
            DOC.same("from the fourth call", x.earliest(0, 1, 21), 50);
            DOC.same("back", x.earliest(1, 0, 0), 40);
        });
    }

    private static void sixCalendars() {
        WhistleStop x = new WhistleStop();
        int[] weekdays = {1, 2, 4, 64, 127, 0};
        for (int calendar = 0; calendar < 6; calendar++) {
            DOC.same("addCalendar", x.addCalendar(weekdays[calendar], 7, 20), calendar);
        }
        same(x, 0, new int[] {7, 14});
        same(x, 1, new int[] {8, 15});
        same(x, 2, new int[] {9, 16});
        same(x, 3, new int[] {13, 20});
        same(x, 4, new int[] {7, 8, 9, 10, 11, 12, 13, 14, 15, 16, 17, 18, 19, 20});
        same(x, 5, new int[] {});
        x.except(4, 7, false);
        x.except(5, 365, true);
        DOC.same("does not, though it would", x.runsOn(4, 7), false);
        DOC.same("runs, though it would not", x.runsOn(5, 365), true);
    }

    private static void same(WhistleStop x, int calendar, int[] days) {
        int[] running = java.util.stream.IntStream.range(-10, 400).filter(day -> x.runsOn(calendar, day)).toArray();
        DOC.same("the days of " + calendar, Arrays.toString(running), Arrays.toString(days));
    }

    private static void fullTrips() {
        WhistleStop x = Timetables.daily(0, 0);
        x.addCalendar(127, 1, 1);
        for (int trip = 0; trip < 24; trip++) {
            DOC.same("addTrip", x.addTrip(trip % 2, trip % 2 * 500, 0, trip < 12 ? 0 : 2879), trip);
        }
        for (int call = 1; call < 8; call++) {
            DOC.same("addCall", x.addCall(23, 1, 2879, 2879), call);
        }
        x.addCall(0, 1, 0, 2879);
        DOC.same("calls(23)", x.calls(23), 8);
        DOC.same("calls(22)", x.calls(22), 1);
        DOC.same("the minute 2879 of the day 1", x.departsAt(0, 4319, 0), 4319);
        DOC.same("its trip", x.tripAt(0, 4319, 0), 23);
        DOC.same("the calendar 1 has no other day", x.tripAt(0, 4319, 1), 0);
        DOC.same("the minute 0 of the day 3", x.departsAt(0, 4319, 1), 4320);
        DOC.same("a price of 500", x.cheapest(0, 1, 4319, 4319), 500);
        DOC.same("a price of 0", x.cheapest(0, 1, 4319, 4320), 0);
    }

    private static void runs() {
        DOC.in("2. Runs");
        DOC.says("A RUN of a trip is one on a day on which its calendar runs, and on which it is not cancelled; its "
            + "calls arrive and depart at the beginning of the day, and their minutes, and how late it is on this day "
            + "(0 to 180; 0, if nothing else was told), added.", () -> {
                WhistleStop x = Timetables.on(2, 3, 0, 0);
                x.addTrip(0, 0, 0, 10);
                x.addCall(0, 1, 20, 25);
                x.addCall(0, 0, 2879, 2879);
                DOC.same("the first day of the calendar", x.earliest(0, 1, 20), 2900);
                x.late(0, 2, 180);
                DOC.same("180 minutes late, it departs", x.departsAt(0, 0, 0), -1);
                DOC.same("180 minutes late, it departs", x.departsAt(0, 1000, 0), 2880 + 190);
                DOC.same("180 minutes late, it arrives", x.earliest(0, 1, 1000), 2880 + 200);
                DOC.same("180 minutes late, it departs from 1", x.departsAt(1, 2000, 0), 2880 + 205);
                DOC.same("180 minutes late, at its end", x.earliest(1, 0, 3085), 2880 + 2879 + 180);
                DOC.same("the next day it is not late", x.departsAt(0, 2000, 1), 4330);
                x.cancel(0, 2);
                DOC.same("cancelled", x.departsAt(0, 2000, 0), 4330);
                DOC.same("cancelled", x.departures(0, 2000), 1);
            });
        DOC.says("If a trip is late on a day, or cancelled, it stays so for this day, whatever its calendar is told "
            + "later.", () -> {
                WhistleStop x = Timetables.daily(0, 0);
                Timetables.shuttle(x, 0, 0, 10, 1, 20);
                x.late(0, 0, 30);
                x.cancel(0, 1);
                for (int day = 0; day < 2; day++) {
                    x.except(0, day, false);
                    DOC.same("lateOf", x.lateOf(0, day), -1);
                    x.except(0, day, true);
                }
                DOC.same("late still", x.lateOf(0, 0), 30);
                DOC.same("late still", x.earliest(0, 1, 0), 50);
                DOC.same("cancelled still", x.lateOf(0, 1), -1);
                DOC.same("cancelled still", x.earliest(0, 1, 1440), 2900);
            });
    }

    private static void newObject() {
        DOC.in("Promise 1: A new object");
        DOC.says("Creates a timetable without stops and trips; no JOURNEY is kept.", () -> {
            WhistleStop x = new WhistleStop();
            DOC.same("stops()", x.stops(), 0);
            DOC.same("trips()", x.trips(), 0);
            DOC.same("legs()", x.legs(), -1);
            DOC.refuses(STATE, "price()", x::price);
            DOC.refuses(INDEX, "earliest(0, 0, 0)", () -> x.earliest(0, 0, 0));
            DOC.refuses(INDEX, "calls(0)", () -> x.calls(0));
            DOC.refuses(INDEX, "runsOn(0, 0)", () -> x.runsOn(0, 0));
            DOC.refuses(INDEX, "addTrip(0, 0, 0, 0)", () -> x.addTrip(0, 0, 0, 0));
            DOC.same("its first stop", x.addStop(0), 0);
        });
    }

    private static void addStop() {
        DOC.in("Promise 2: addStop");
        DOC.says("Adds a stop.", () -> {
            WhistleStop x = new WhistleStop();
            x.addStop(7);
            DOC.same("stops()", x.stops(), 1);
            DOC.same("earliest(0, 0, 9)", x.earliest(0, 0, 9), 9);
            DOC.same("setChange(0, 0)", x.setChange(0, 0), 7);
        });
        DOC.says("Returns its number.", () -> {
            WhistleStop x = new WhistleStop();
            for (int stop = 0; stop < 16; stop++) {
                DOC.same("addStop(" + stop + ")", x.addStop(stop), stop);
            }
        });
        DOC.says("Throws `IllegalArgumentException` if change is not 0 to 30", () -> {
            WhistleStop x = new WhistleStop();
            DOC.refusesEach(ARGUMENT, "addStop", x::addStop, -1, 31, LEAST, MOST);
            DOC.same("addStop(0)", x.addStop(0), 0);
            DOC.same("addStop(30)", x.addStop(30), 1);
        });
        DOC.says("Throws `IllegalStateException` if there are 16", () -> {
            WhistleStop x = Timetables.withStops(new int[15]);
            DOC.same("the last one", x.addStop(1), 15);
            DOC.refusesEach(STATE, "addStop", x::addStop, 0, 1, 30);
            DOC.same("stops()", x.stops(), 16);
        });
    }

    private static void setChange() {
        DOC.in("Promise 3: setChange");
        DOC.says("`change`: its CHANGE from now on", () -> {
            WhistleStop x = Timetables.line();
            x.setChange(1, 7);
            DOC.same("just met", x.earliest(0, 2, 0), 150);
            x.setChange(1, 8);
            DOC.same("missed", x.earliest(0, 2, 0), 1590);
        });
        DOC.says("Returns the one before.", () -> {
            WhistleStop x = Timetables.withStops(4, 9);
            DOC.same("setChange(1, 30)", x.setChange(1, 30), 9);
            DOC.same("setChange(1, 30)", x.setChange(1, 30), 30);
            DOC.same("setChange(1, 0)", x.setChange(1, 0), 30);
            DOC.same("setChange(0, 1)", x.setChange(0, 1), 4);
        });
        DOC.says("Throws `IndexOutOfBoundsException` if there is no such stop", () -> {
            WhistleStop x = Timetables.withStops(4, 9);
            DOC.refusesEach(INDEX, "setChange", stop -> x.setChange(stop, 5), -1, 2, 15, 16, LEAST, MOST);
            DOC.same("setChange(1, 5)", x.setChange(1, 5), 9);
        });
        DOC.says("Throws `IllegalArgumentException` if change is not 0 to 30", () -> {
            WhistleStop x = Timetables.withStops(4, 9);
            DOC.refusesEach(ARGUMENT, "setChange", change -> x.setChange(1, change), -1, 31, LEAST, MOST);
            DOC.same("setChange(1, 0)", x.setChange(1, 0), 9);
            DOC.same("setChange(1, 30)", x.setChange(1, 30), 0);
        });
    }

    private static void addFootway() {
        DOC.in("Promise 4: addFootway");
        DOC.says("Adds a footway.", () -> {
            WhistleStop x = Timetables.withStops(0, 0);
            DOC.same("none", x.earliest(0, 1, 0), -1);
            x.addFootway(1, 0, 17);
            DOC.same("there", x.earliest(1, 0, 0), 17);
            DOC.same("back", x.earliest(0, 1, 0), 17);
        });
        DOC.says("`minutes`: how long it takes", () -> {
            WhistleStop x = Timetables.withStops(0, 0);
            x.addFootway(0, 1, 60);
            x.find(0, 1, 5);
            DOC.same("its legs", Timetables.journeyOf(x), "-1 to 1 5-65");
        });
        DOC.says("Returns its number.", () -> {
            WhistleStop x = Timetables.withStops(0, 0, 0);
            for (int number = 0; number < 20; number++) {
                DOC.same("addFootway", x.addFootway(number % 3, (number + 1) % 3, 60), number);
            }
        });
        DOC.says("Throws `IndexOutOfBoundsException` if there is no such stop", () -> {
            WhistleStop x = Timetables.withStops(0, 0);
            DOC.refusesEach(INDEX, "from", stop -> x.addFootway(stop, 1, 5), -1, 2, 15, 16, LEAST, MOST);
            DOC.refusesEach(INDEX, "to", stop -> x.addFootway(1, stop, 5), -1, 2, 15, 16, LEAST, MOST);
            DOC.same("addFootway(1, 0, 5)", x.addFootway(1, 0, 5), 0);
        });
        DOC.says("Throws `IllegalArgumentException` if both are the same, or minutes is not 1 to 60", () -> {
            WhistleStop x = Timetables.withStops(0, 0);
            DOC.refusesEach(ARGUMENT, "both", stop -> x.addFootway(stop, stop, 5), 0, 1);
            DOC.refusesEach(ARGUMENT, "minutes", minutes -> x.addFootway(0, 1, minutes), 0, -1, 61, LEAST, MOST);
            DOC.same("no way", x.earliest(0, 1, 0), -1);
            DOC.same("60 minutes", x.addFootway(0, 1, 60), 0);
            DOC.same("1 minute", x.addFootway(0, 1, 1), 1);
        });
        DOC.says("Throws `IllegalStateException` if there are 20", () -> {
            WhistleStop x = Timetables.withStops(0, 0, 0);
            for (int number = 0; number < 19; number++) {
                x.addFootway(0, 1, 5);
            }
            DOC.same("the last one", x.addFootway(0, 1, 4), 19);
            DOC.refuses(STATE, "one more", () -> x.addFootway(0, 2, 5));
            DOC.refuses(STATE, "one more", () -> x.addFootway(0, 1, 1));
            DOC.same("as before", x.earliest(0, 1, 0), 4);
            DOC.same("no way", x.earliest(0, 2, 0), -1);
        });
    }

    private static void addCalendar() {
        DOC.in("Promise 5: addCalendar");
        DOC.says("Adds a calendar.", () -> {
            WhistleStop x = Timetables.withStops(0);
            DOC.refuses(INDEX, "runsOn(0, 3)", () -> x.runsOn(0, 3));
            x.addCalendar(8, 3, 10);
            same(x, 0, new int[] {3, 10});
        });
        DOC.says("Returns its number.", () -> {
            WhistleStop x = Timetables.withStops(0);
            for (int calendar = 0; calendar < 6; calendar++) {
                DOC.same("addCalendar", x.addCalendar(127, 0, 365), calendar);
            }
        });
        DOC.says("Throws `IllegalArgumentException` if weekdays is not 0 to 127, first is not 0 to 365, or last is not "
            + "first to 365", () -> {
                WhistleStop x = Timetables.withStops(0);
                DOC.refusesEach(ARGUMENT, "weekdays", set -> x.addCalendar(set, 0, 365), -1, 128, 255, LEAST, MOST);
                DOC.refusesEach(ARGUMENT, "first", first -> x.addCalendar(1, first, 365), -1, 366, LEAST, MOST);
                DOC.refusesEach(ARGUMENT, "last", last -> x.addCalendar(1, 5, last), 4, 0, -1, 366, LEAST, MOST);
                DOC.refuses(ARGUMENT, "both", () -> x.addCalendar(1, 366, 366));
                DOC.refuses(ARGUMENT, "both", () -> x.addCalendar(1, -1, -1));
                DOC.refuses(INDEX, "none was added", () -> x.runsOn(0, 0));
                DOC.same("addCalendar(0, 0, 0)", x.addCalendar(0, 0, 0), 0);
                DOC.same("addCalendar(127, 365, 365)", x.addCalendar(127, 365, 365), 1);
                DOC.same("addCalendar(127, 5, 5)", x.addCalendar(127, 5, 5), 2);
                same(x, 0, new int[] {});
                same(x, 1, new int[] {365});
                same(x, 2, new int[] {5});
            });
        DOC.says("Throws `IllegalStateException` if there are 6", () -> {
            WhistleStop x = Timetables.withStops(0);
            for (int calendar = 0; calendar < 5; calendar++) {
                x.addCalendar(1, 0, 7);
            }
            DOC.same("the last one", x.addCalendar(2, 0, 7), 5);
            DOC.refuses(STATE, "one more", () -> x.addCalendar(127, 0, 365));
            DOC.refuses(INDEX, "runsOn(6, 0)", () -> x.runsOn(6, 0));
            same(x, 5, new int[] {1});
        });
    }

    private static void except() {
        DOC.in("Promise 6: except");
        DOC.says("Tells an exception of a calendar, in place of one for the same day.", () -> {
            WhistleStop x = Timetables.withStops(0);
            x.addCalendar(1, 0, 7);
            x.addCalendar(1, 0, 7);
            x.except(0, 0, false);
            x.except(0, 1, true);
            same(x, 0, new int[] {1, 7});
            x.except(0, 0, true);
            x.except(0, 1, false);
            same(x, 0, new int[] {0, 7});
            same(x, 1, new int[] {0, 7});
        });
        DOC.says("`isRunning`: whether it runs on it", () -> {
            WhistleStop x = Timetables.withStops(0);
            x.addCalendar(0, 5, 5);
            x.except(0, 0, true);
            x.except(0, 5, true);
            x.except(0, 6, false);
            x.except(0, 365, true);
            same(x, 0, new int[] {0, 5, 365});
        });
        DOC.says("Returns whether it ran on it before.", () -> {
            WhistleStop x = Timetables.withStops(0);
            x.addCalendar(1, 0, 7);
            DOC.same("a day on which it runs", x.except(0, 7, true), true);
            DOC.same("still", x.except(0, 7, false), true);
            DOC.same("not any more", x.except(0, 7, false), false);
            DOC.same("not any more", x.except(0, 7, true), false);
            DOC.same("again", x.except(0, 7, true), true);
            DOC.same("behind the last day", x.except(0, 14, true), false);
            DOC.same("the last of all days", x.except(0, 365, false), false);
        });
        DOC.says("Throws `IndexOutOfBoundsException` if there is no such calendar", () -> {
            WhistleStop x = Timetables.withStops(0);
            DOC.refuses(INDEX, "without any", () -> x.except(0, 0, true));
            x.addCalendar(1, 0, 7);
            x.addCalendar(1, 0, 7);
            DOC.refusesEach(INDEX, "except", calendar -> x.except(calendar, 1, true), -1, 2, 5, 6, LEAST, MOST);
            same(x, 0, new int[] {0, 7});
            same(x, 1, new int[] {0, 7});
        });
        DOC.says("Throws `IllegalArgumentException` if day is not 0 to 365", () -> {
            WhistleStop x = Timetables.withStops(0);
            x.addCalendar(1, 0, 7);
            DOC.refusesEach(ARGUMENT, "except", day -> x.except(0, day, true), -1, 366, -7, LEAST, MOST);
            same(x, 0, new int[] {0, 7});
            DOC.same("the day 0", x.except(0, 0, false), true);
            DOC.same("the day 365", x.except(0, 365, true), false);
            same(x, 0, new int[] {7, 365});
        });
    }

    private static void runsOn() {
        DOC.in("Promise 7: runsOn");
        DOC.says("Returns whether it runs on it; false for a day that is not 0 to 365.", () -> {
            WhistleStop x = Timetables.withStops(0);
            x.addCalendar(127, 0, 365);
            for (int day : new int[] {-1, -7, 366, 371, 1000000, LEAST, MOST}) {
                DOC.same("runsOn(0, " + day + ")", x.runsOn(0, day), false);
            }
            DOC.same("runsOn(0, 0)", x.runsOn(0, 0), true);
            DOC.same("runsOn(0, 365)", x.runsOn(0, 365), true);
        });
        DOC.says("Throws `IndexOutOfBoundsException` if there is no such calendar", () -> {
            WhistleStop x = Timetables.withStops(0);
            DOC.refuses(INDEX, "without any", () -> x.runsOn(0, 0));
            x.addCalendar(127, 0, 365);
            DOC.refusesEach(INDEX, "runsOn", calendar -> x.runsOn(calendar, 0), -1, 1, 5, 6, LEAST, MOST);
            DOC.refuses(INDEX, "no day, too", () -> x.runsOn(1, 366));
        });
    }

    private static void addTrip() {
        DOC.in("Promise 8: addTrip");
        DOC.says("Adds a trip with its first call.", () -> {
            WhistleStop x = Timetables.daily(0, 0);
            x.addTrip(0, 5, 1, 70);
            DOC.same("trips()", x.trips(), 1);
            DOC.same("calls(0)", x.calls(0), 1);
            DOC.same("stopOf(0, 0)", x.stopOf(0, 0), 1);
            DOC.same("it departs nowhere yet", x.departures(1, 0), 0);
            DOC.same("it has RUNS", x.lateOf(0, 3), 0);
        });
        DOC.says("`departs`: the minute at which it departs", () -> {
            WhistleStop x = Timetables.daily(0, 0);
            Timetables.shuttle(x, 0, 0, 70, 1, 2879);
            DOC.same("departsAt(0, 0, 0)", x.departsAt(0, 0, 0), 70);
        });
        DOC.says("Returns its number.", () -> {
            WhistleStop x = Timetables.daily(0);
            for (int trip = 0; trip < 24; trip++) {
                DOC.same("addTrip", x.addTrip(0, 0, 0, 0), trip);
            }
        });
        DOC.says("Throws `IndexOutOfBoundsException` if there is no such calendar, or stop", () -> {
            WhistleStop none = Timetables.withStops(0);
            DOC.refuses(INDEX, "without a calendar", () -> none.addTrip(0, 0, 0, 0));
            WhistleStop x = Timetables.daily(0, 0);
            DOC.refusesEach(INDEX, "calendar", calendar -> x.addTrip(calendar, 0, 0, 0), -1, 1, 5, 6, LEAST, MOST);
            DOC.refusesEach(INDEX, "stop", stop -> x.addTrip(0, 0, stop, 0), -1, 2, 15, 16, LEAST, MOST);
            DOC.same("trips()", x.trips(), 0);
        });
        DOC.says("Throws `IllegalArgumentException` if price is not 0 to 500, or departs is not 0 to 2879", () -> {
            WhistleStop x = Timetables.daily(0, 0);
            DOC.refusesEach(ARGUMENT, "price", price -> x.addTrip(0, price, 0, 0), -1, 501, LEAST, MOST);
            DOC.refusesEach(ARGUMENT, "departs", departs -> x.addTrip(0, 0, 0, departs), -1, 2880, LEAST, MOST);
            DOC.same("trips()", x.trips(), 0);
            DOC.same("at the least", x.addTrip(0, 0, 0, 0), 0);
            DOC.same("at the most", x.addTrip(0, 500, 0, 2879), 1);
        });
        DOC.says("Throws `IllegalStateException` if there are 24", () -> {
            WhistleStop x = Timetables.daily(0);
            for (int trip = 0; trip < 23; trip++) {
                x.addTrip(0, 0, 0, 0);
            }
            DOC.same("the last one", x.addTrip(0, 0, 0, 0), 23);
            DOC.refuses(STATE, "one more", () -> x.addTrip(0, 0, 0, 0));
            DOC.same("trips()", x.trips(), 24);
            DOC.refuses(INDEX, "calls(24)", () -> x.calls(24));
        });
    }

    private static void addCall() {
        DOC.in("Promise 9: addCall");
        DOC.says("Adds a call to a trip, behind the others.", () -> {
            WhistleStop x = Timetables.daily(0, 0, 0);
            x.addTrip(0, 0, 2, 10);
            x.addTrip(0, 0, 0, 10);
            x.addCall(0, 0, 20, 25);
            x.addCall(0, 1, 30, 30);
            DOC.same("calls(0)", x.calls(0), 3);
            DOC.same("calls(1)", x.calls(1), 1);
            DOC.same("stopOf(0, 1)", x.stopOf(0, 1), 0);
            DOC.same("stopOf(0, 2)", x.stopOf(0, 2), 1);
            DOC.same("it departs", x.departsAt(0, 0, 0), 25);
        });
        DOC.says("`arrives`: the minute at which it arrives", () -> {
            WhistleStop x = Timetables.daily(0, 0);
            x.addTrip(0, 0, 0, 10);
            x.addCall(0, 1, 20, 2000);
            DOC.same("earliest(0, 1, 0)", x.earliest(0, 1, 0), 20);
        });
        DOC.says("`departs`: the minute at which it departs", () -> {
            WhistleStop x = Timetables.daily(0, 0);
            x.addTrip(0, 0, 0, 10);
            x.addCall(0, 1, 20, 2000);
            x.addCall(0, 0, 2000, 2000);
            DOC.same("departsAt(1, 0, 0)", x.departsAt(1, 0, 0), 2000);
        });
        DOC.says("Returns the number of the call.", () -> {
            WhistleStop x = Timetables.daily(0, 0);
            x.addTrip(0, 0, 0, 10);
            x.addTrip(0, 0, 0, 10);
            for (int call = 1; call < 8; call++) {
                DOC.same("addCall", x.addCall(1, call % 2, 10 * call, 10 * call), call);
            }
            DOC.same("addCall of the other", x.addCall(0, 1, 10, 10), 1);
        });
        DOC.says("Throws `IndexOutOfBoundsException` if there is no such trip, or stop", () -> {
            WhistleStop x = Timetables.daily(0, 0);
            DOC.refuses(INDEX, "without any", () -> x.addCall(0, 0, 10, 10));
            x.addTrip(0, 0, 0, 10);
            DOC.refusesEach(INDEX, "trip", trip -> x.addCall(trip, 0, 10, 10), -1, 1, 23, 24, LEAST, MOST);
            DOC.refusesEach(INDEX, "stop", stop -> x.addCall(0, stop, 10, 10), -1, 2, 15, 16, LEAST, MOST);
            DOC.same("calls(0)", x.calls(0), 1);
        });
        DOC.says("Throws `IllegalArgumentException` if arrives is less than the minute at which the call ahead "
            + "departs, departs is less than arrives, or more than 2879", () -> {
                WhistleStop x = Timetables.daily(0, 0);
                x.addTrip(0, 0, 0, 10);
                x.addCall(0, 1, 20, 30);
                DOC.refusesEach(ARGUMENT, "arrives", arrives -> x.addCall(0, 0, arrives, 40), 29, 20, 0, -1, LEAST);
                DOC.refusesEach(ARGUMENT, "arrives", arrives -> x.addCall(0, 0, arrives, 40), 41, 2880, MOST);
                DOC.refusesEach(ARGUMENT, "departs", departs -> x.addCall(0, 0, 50, departs), 49, 30, -1, LEAST);
                DOC.refusesEach(ARGUMENT, "departs", departs -> x.addCall(0, 0, 50, departs), 2880, MOST);
                DOC.refuses(ARGUMENT, "both", () -> x.addCall(0, 0, 2880, 2880));
                DOC.refuses(ARGUMENT, "both", () -> x.addCall(0, 0, MOST, MOST));
                DOC.same("calls(0)", x.calls(0), 2);
                DOC.same("at the least", x.addCall(0, 0, 30, 30), 2);
                DOC.same("at the most", x.addCall(0, 0, 2879, 2879), 3);
                DOC.same("once more", x.addCall(0, 0, 2879, 2879), 4);
            });
        DOC.says("Throws `IllegalStateException` if the trip has 8 calls", () -> {
            WhistleStop x = Timetables.daily(0, 0);
            Timetables.row(x, 10, 0, 1, 0, 1, 0, 1, 0);
            DOC.same("the last one", x.addCall(0, 1, 80, 80), 7);
            DOC.refuses(STATE, "one more", () -> x.addCall(0, 0, 90, 90));
            DOC.same("calls(0)", x.calls(0), 8);
            DOC.same("it does not depart from its end", x.departures(1, 0), 6);
            x.addTrip(0, 0, 0, 10);
            DOC.same("another trip", x.addCall(1, 0, 90, 90), 1);
        });
    }

    private static void stopsAndTripsAndCalls() {
        DOC.in("Promise 10: stops");
        DOC.says("Returns how many stops there are.", () -> {
            WhistleStop x = new WhistleStop();
            for (int stop = 0; stop < 16; stop++) {
                DOC.same("stops()", x.stops(), stop);
                x.addStop(0);
            }
            DOC.same("stops()", x.stops(), 16);
        });
        DOC.in("Promise 11: trips");
        DOC.says("Returns how many trips there are.", () -> {
            WhistleStop x = Timetables.daily(0, 0, 0);
            for (int trip = 0; trip < 24; trip++) {
                DOC.same("trips()", x.trips(), trip);
                x.addTrip(0, 0, 0, 0);
            }
            DOC.same("trips()", x.trips(), 24);
        });
        DOC.in("Promise 12: calls");
        DOC.says("Returns how many calls it has.", () -> {
            WhistleStop x = Timetables.daily(0);
            x.addTrip(0, 0, 0, 0);
            x.addTrip(0, 0, 0, 0);
            for (int call = 1; call < 8; call++) {
                DOC.same("calls(1)", x.calls(1), call);
                x.addCall(1, 0, 0, 0);
            }
            DOC.same("calls(1)", x.calls(1), 8);
            DOC.same("calls(0)", x.calls(0), 1);
        });
        DOC.says("Throws `IndexOutOfBoundsException` if there is no such trip", () -> {
            WhistleStop x = Timetables.daily(0);
            DOC.refuses(INDEX, "without any", () -> x.calls(0));
            x.addTrip(0, 0, 0, 0);
            DOC.refusesEach(INDEX, "calls", x::calls, -1, 1, 23, 24, LEAST, MOST);
        });
    }

    private static void stopOf() {
        DOC.in("Promise 13: stopOf");
        DOC.says("Returns its stop.", () -> {
            WhistleStop x = Timetables.daily(0, 0, 0);
            int[] stops = {2, 0, 1, 1, 0, 2, 2, 0};
            Timetables.row(x, 10, 1, 0);
            Timetables.row(x, 10, stops);
            for (int call = 0; call < 8; call++) {
                DOC.same("stopOf(1, " + call + ")", x.stopOf(1, call), stops[call]);
            }
            DOC.same("stopOf(0, 0)", x.stopOf(0, 0), 1);
        });
        DOC.says("Throws `IndexOutOfBoundsException` if there is no such trip, or call", () -> {
            WhistleStop x = Timetables.daily(0, 0);
            DOC.refuses(INDEX, "without any", () -> x.stopOf(0, 0));
            Timetables.row(x, 10, 0, 1, 0);
            x.addTrip(0, 0, 0, 0);
            DOC.refusesEach(INDEX, "trip", trip -> x.stopOf(trip, 0), -1, 2, 23, 24, LEAST, MOST);
            DOC.refusesEach(INDEX, "call", call -> x.stopOf(0, call), -1, 3, 7, 8, LEAST, MOST);
            DOC.refusesEach(INDEX, "call", call -> x.stopOf(1, call), -1, 1, 2);
        });
    }

    private static void late() {
        DOC.in("Promise 14: late");
        DOC.says("Tells how late a trip is on a day; a cancelled one is not cancelled any more.", () -> {
            WhistleStop x = Timetables.daily(0, 0);
            Timetables.shuttle(x, 0, 0, 10, 1, 20);
            Timetables.shuttle(x, 0, 0, 500, 1, 600);
            x.late(0, 1, 180);
            DOC.same("that trip, that day", x.lateOf(0, 1), 180);
            DOC.same("another day", x.lateOf(0, 0), 0);
            DOC.same("another trip", x.lateOf(1, 1), 0);
            x.late(0, 1, 0);
            DOC.same("on time again", x.earliest(0, 1, 1440), 1460);
            x.cancel(0, 1);
            DOC.same("cancelled", x.earliest(0, 1, 1440), 2040);
            x.late(0, 1, 0);
            DOC.same("not cancelled any more", x.earliest(0, 1, 1440), 1460);
        });
        DOC.says("Returns how late it was told to be (0, if nothing was told), whether its calendar runs or not; -1 if "
            + "it was cancelled.", () -> {
                WhistleStop x = Timetables.on(0, 0, 0, 0);
                Timetables.shuttle(x, 0, 0, 10, 1, 20);
                for (int day : new int[] {0, 1, 365}) {
                    DOC.same("nothing was told", x.late(0, day, 180), 0);
                    DOC.same("it was told", x.late(0, day, 0), 180);
                    DOC.same("it was told", x.late(0, day, 7), 0);
                    x.cancel(0, day);
                    DOC.same("cancelled", x.late(0, day, 3), -1);
                    DOC.same("not any more", x.late(0, day, 0), 3);
                    x.cancel(0, day);
                    x.cancel(0, day);
                    DOC.same("cancelled twice", x.late(0, day, 0), -1);
                    DOC.same("not any more", x.late(0, day, 0), 0);
                }
            });
        DOC.says("Throws `IndexOutOfBoundsException` if there is no such trip", () -> {
            WhistleStop x = Timetables.daily(0, 0);
            DOC.refuses(INDEX, "without any", () -> x.late(0, 0, 0));
            x.addTrip(0, 0, 0, 10);
            DOC.refusesEach(INDEX, "late", trip -> x.late(trip, 0, 5), -1, 1, 23, 24, LEAST, MOST);
            DOC.same("lateOf(0, 0)", x.lateOf(0, 0), 0);
        });
        DOC.says("Throws `IllegalArgumentException` if day is not 0 to 365, or minutes is not 0 to 180", () -> {
            WhistleStop x = Timetables.daily(0, 0);
            x.addTrip(0, 0, 0, 10);
            DOC.refusesEach(ARGUMENT, "day", day -> x.late(0, day, 5), -1, 366, LEAST, MOST);
            DOC.refusesEach(ARGUMENT, "minutes", minutes -> x.late(0, 0, minutes), -1, 181, LEAST, MOST);
            DOC.same("lateOf(0, 0)", x.lateOf(0, 0), 0);
            DOC.same("lateOf(0, 365)", x.lateOf(0, 365), 0);
            DOC.same("late(0, 0, 180)", x.late(0, 0, 180), 0);
            DOC.same("late(0, 365, 0)", x.late(0, 365, 0), 0);
        });
    }

    private static void cancel() {
        DOC.in("Promise 15: cancel");
        DOC.says("Cancels a trip on a day (also on one on which its calendar does not run).", () -> {
            WhistleStop x = Timetables.on(0, 1, 0, 0);
            Timetables.shuttle(x, 0, 0, 10, 1, 20);
            Timetables.shuttle(x, 0, 0, 500, 1, 600);
            x.cancel(0, 0);
            DOC.same("that trip, that day", x.lateOf(0, 0), -1);
            DOC.same("another day", x.lateOf(0, 1), 0);
            DOC.same("another trip", x.lateOf(1, 0), 0);
            DOC.same("without it", x.earliest(0, 1, 0), 600);
            x.cancel(0, 2);
            x.except(0, 2, true);
            DOC.same("cancelled, where its calendar did not run", x.lateOf(0, 2), -1);
            DOC.same("the other one runs", x.lateOf(1, 2), 0);
        });
        DOC.says("Returns whether there was a RUN.", () -> {
            WhistleStop x = Timetables.on(0, 1, 0, 0);
            x.addTrip(0, 0, 0, 10);
            DOC.same("there was one", x.cancel(0, 0), true);
            DOC.same("not any more", x.cancel(0, 0), false);
            x.late(0, 0, 9);
            DOC.same("there was one again", x.cancel(0, 0), true);
            DOC.same("its calendar does not run", x.cancel(0, 2), false);
            x.late(0, 1, 180);
            DOC.same("a late one", x.cancel(0, 1), true);
            DOC.same("the last day", x.cancel(0, 365), false);
            x.except(0, 364, true);
            DOC.same("by an exception", x.cancel(0, 364), true);
        });
        DOC.says("Throws `IndexOutOfBoundsException` if there is no such trip", () -> {
            WhistleStop x = Timetables.daily(0, 0);
            DOC.refuses(INDEX, "without any", () -> x.cancel(0, 0));
            x.addTrip(0, 0, 0, 10);
            DOC.refusesEach(INDEX, "cancel", trip -> x.cancel(trip, 0), -1, 1, 23, 24, LEAST, MOST);
            DOC.same("lateOf(0, 0)", x.lateOf(0, 0), 0);
        });
        DOC.says("Throws `IllegalArgumentException` if day is not 0 to 365", () -> {
            WhistleStop x = Timetables.daily(0, 0);
            x.addTrip(0, 0, 0, 10);
            DOC.refusesEach(ARGUMENT, "cancel", day -> x.cancel(0, day), -1, 366, LEAST, MOST);
            DOC.same("lateOf(0, 0)", x.lateOf(0, 0), 0);
            DOC.same("lateOf(0, 365)", x.lateOf(0, 365), 0);
            DOC.same("cancel(0, 0)", x.cancel(0, 0), true);
            DOC.same("cancel(0, 365)", x.cancel(0, 365), true);
        });
    }

    private static void lateOf() {
        DOC.in("Promise 16: lateOf");
        DOC.says("Returns how late its RUN is; -1 if there is no RUN.", () -> {
            WhistleStop x = Timetables.on(0, 365, 0, 0);
            x.addCalendar(127, 2, 2);
            x.addTrip(1, 0, 0, 10);
            x.addTrip(0, 0, 0, 10);
            DOC.same("nothing was told", x.lateOf(0, 2), 0);
            x.late(0, 2, 180);
            DOC.same("late", x.lateOf(0, 2), 180);
            DOC.same("ahead of its calendar", x.lateOf(0, 1), -1);
            DOC.same("behind its calendar", x.lateOf(0, 3), -1);
            x.late(0, 3, 5);
            DOC.same("late, but no RUN", x.lateOf(0, 3), -1);
            x.cancel(0, 2);
            DOC.same("cancelled", x.lateOf(0, 2), -1);
            for (int day : new int[] {-1, -7, 366, 1000000, LEAST, MOST}) {
                DOC.same("lateOf(1, " + day + ")", x.lateOf(1, day), -1);
            }
            DOC.same("lateOf(1, 0)", x.lateOf(1, 0), 0);
            DOC.same("lateOf(1, 365)", x.lateOf(1, 365), 0);
        });
        DOC.says("Throws `IndexOutOfBoundsException` if there is no such trip", () -> {
            WhistleStop x = Timetables.daily(0, 0);
            DOC.refuses(INDEX, "without any", () -> x.lateOf(0, 0));
            x.addTrip(0, 0, 0, 10);
            DOC.refusesEach(INDEX, "lateOf", trip -> x.lateOf(trip, 0), -1, 1, 23, 24, LEAST, MOST);
            DOC.refuses(INDEX, "no day, too", () -> x.lateOf(1, -1));
        });
    }
}
