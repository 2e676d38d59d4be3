/** A test for each sentence on journeys, boards and the questions for them: section 3, promises 17 to 26. */
public final class JourneySentencesTest {
    private static final int LEAST = Sentences.LEAST;
    private static final int MOST = Sentences.MOST;
    private static final int LAST_TIME = 500000;
    private static final Class<IndexOutOfBoundsException> INDEX = Sentences.INDEX;
    private static final Class<IllegalArgumentException> ARGUMENT = Sentences.ARGUMENT;

    private static final Sentences DOC = new Sentences();

    private interface Question {
        Object answer(WhistleStop x, int from, int to, int at);
    }

    private interface BoardQuestion {
        Object answer(WhistleStop x, int stop, int at);
    }

    public static void main(String[] args) {
        journeys();
        ridesAndWalks();
        limitsOfJourneys();
        theOneThatIsKept();
        refusals();
        headings();
        departures();
        departsAt();
        tripAt();
        earliest();
        withRides();
        rides();
        cheapest();
        latest();
        reached();
        find();
        DOC.end("3. Journeys", "Promise 17: departures", "Promise 18: departsAt", "Promise 19: tripAt",
            "Promise 20: earliest", "Promise 21: withRides", "Promise 22: rides", "Promise 23: cheapest",
            "Promise 24: latest", "Promise 25: reached", "Promise 26: find");
    }

    private static void sameJourney(WhistleStop x, int from, int to, int at, String due) {
        x.find(from, to, at);
        DOC.same("find(" + from + ", " + to + ", " + at + ")", Timetables.journeyOf(x), due);
    }

    private static void journeys() {
        DOC.in("3. Journeys");
        DOC.says("A JOURNEY from a stop to another one, begun at a time T, is a row of LEGS: RIDES and WALKS.",
            () -> sameJourney(Timetables.line(), 0, 3, 90, "0 to 1 100-120; 1 to 2 127-150; -1 to 3 150-159"));
        DOC.says("A RIDE goes by a RUN from one of its calls to one with a greater number; it ends as its RUN arrives "
            + "there.", () -> {
                WhistleStop x = Timetables.daily(0, 0, 0);
                x.addTrip(0, 0, 0, 100);
                x.addCall(0, 1, 100, 170);
                x.addCall(0, 2, 180, 180);
                DOC.same("it ends as it arrives, not as it departs", x.earliest(0, 1, 100), 100);
                DOC.same("over a call", x.earliest(0, 2, 100), 180);
                DOC.same("not from a greater number, though at one minute", x.earliest(1, 0, 100), -1);
                DOC.same("not back", x.earliest(2, 0, 0), -1);
                x.cancel(0, 0);
                DOC.same("not without a RUN", x.earliest(0, 1, 100), 1540);
            });
        DOC.says("A WALK goes along a footway.", () -> {
            WhistleStop x = Timetables.withStops(0, 0, 0);
            x.addFootway(0, 1, 7);
            DOC.same("along it", x.earliest(0, 1, 50), 57);
            DOC.same("back", x.earliest(1, 0, 50), 57);
            DOC.same("where there is none", x.earliest(0, 2, 50), -1);
        });
        DOC.says("The first leg begins at the one stop, each next one where the one ahead ended, the last one ends at "
            + "the other stop.", () -> {
                WhistleStop x = Timetables.daily(0, 0, 0, 0, 0);
                Timetables.shuttle(x, 0, 1, 10, 4, 20);
                Timetables.shuttle(x, 0, 0, 10, 1, 20);
                Timetables.shuttle(x, 0, 2, 30, 4, 40);
                Timetables.shuttle(x, 0, 1, 30, 3, 50);
                x.addFootway(3, 4, 5);
                sameJourney(x, 0, 4, 0, "1 to 1 10-20; 3 to 3 30-50; -1 to 4 50-55");
                WhistleStop y = Timetables.daily(3, 3, 3);
                Timetables.shuttle(y, 0, 2, 10, 0, 20);
                Timetables.shuttle(y, 0, 0, 23, 1, 30);
                Timetables.shuttle(y, 0, 1, 40, 0, 50);
                sameJourney(y, 2, 1, 0, "0 to 0 10-20; 1 to 1 23-30");
                sameJourney(y, 1, 0, 0, "2 to 0 40-50");
                sameJourney(y, 2, 0, 0, "0 to 0 10-20");
                sameJourney(y, 1, 2, 0, "");
                DOC.same("none", y.legs(), -1);
            });
    }

    private static void ridesAndWalks() {
        DOC.says("A WALK begins at T, or as the leg ahead ends; it never follows another WALK.", () -> {
            WhistleStop x = Timetables.daily(30, 30, 30, 30);
            x.addFootway(0, 1, 5);
            x.addFootway(2, 3, 5);
            Timetables.shuttle(x, 0, 1, 40, 2, 60);
            sameJourney(x, 0, 3, 7, "-1 to 1 7-12; 0 to 2 40-60; -1 to 3 60-65");
            x.addFootway(1, 2, 5);
            DOC.same("no WALK behind a WALK", x.earliest(0, 2, 7), 60);
            DOC.same("no WALK behind two WALKS", x.earliest(0, 3, 41), 1505);
            DOC.same("nor behind a RIDE and a WALK", x.withRides(3, 1, 0, 6), -1);
        });
        DOC.says("A RIDE begins as its RUN departs, which is at T or later; not ahead of the end of the leg ahead; "
            + "and, if that is a RIDE (also by the same RUN), not ahead of its end and the CHANGE of the stop, added.",
            JourneySentencesTest::rideBegins);
    }

    private static void rideBegins() {
        WhistleStop x = Timetables.daily(30, 30, 30);
        Timetables.shuttle(x, 0, 0, 100, 1, 120);
        DOC.same("at T", x.earliest(0, 1, 100), 120);
        DOC.same("a minute later it has gone", x.earliest(0, 1, 101), 1560);
        x.addFootway(1, 2, 8);
        Timetables.shuttle(x, 0, 2, 128, 0, 140);
        DOC.same("at the end of a WALK, without a CHANGE", x.earliest(1, 0, 120), 140);
        DOC.same("a minute behind the end of a WALK", x.earliest(1, 0, 121), 1580);
        DOC.same("at the end of a RIDE and a WALK", x.reached(0, 100, 40), 3);
        Timetables.shuttle(x, 0, 1, 150, 2, 151);
        x.cancel(1, 0);
        sameJourney(x, 0, 2, 100, "0 to 1 100-120; -1 to 2 120-128");
        WhistleStop y = Timetables.daily(0, 30, 0);
        Timetables.shuttle(y, 0, 0, 100, 1, 120);
        Timetables.shuttle(y, 0, 1, 149, 2, 160);
        Timetables.shuttle(y, 0, 1, 150, 2, 170);
        DOC.same("at the end of a RIDE and the CHANGE", y.earliest(0, 2, 100), 170);
        y.setChange(1, 29);
        DOC.same("a shorter CHANGE", y.earliest(0, 2, 100), 160);
        y.setChange(0, 30);
        y.setChange(2, 30);
        DOC.same("no CHANGE at the first stop, nor at the last one", y.earliest(0, 2, 100), 160);
        WhistleStop z = Timetables.daily(9, 9, 9);
        int again = z.addTrip(0, 7, 0, 100);
        z.addCall(again, 1, 110, 112);
        z.addCall(again, 2, 120, 120);
        z.addCall(again, 1, 130, 130);
        sameJourney(z, 0, 2, 100, "0 to 2 100-120");
        DOC.same("the same RUN needs no second RIDE", z.cheapest(0, 2, 100, MOST), 7);
        DOC.same("the same RUN needs no CHANGE, if one stays", z.withRides(0, 2, 100, 1), 120);
    }

    private static void limitsOfJourneys() {
        DOC.says("There are at most 6 RIDES.", () -> {
            WhistleStop x = Timetables.chain(8, 3);
            DOC.same("six", x.earliest(0, 6, 0), 160);
            DOC.same("six", x.rides(0, 6, 0), 6);
            DOC.same("seven", x.earliest(0, 7, 0), -1);
            DOC.same("seven", x.rides(0, 7, 0), -1);
            DOC.same("seven", x.cheapest(0, 7, 0, MOST), -1);
            DOC.same("seven", x.latest(0, 7, 170), -1);
            DOC.same("seven", x.find(0, 7, 0), -1);
            DOC.same("seven", x.reached(0, 0, 2880), 7);
            x.addFootway(7, 6, 60);
            DOC.same("six and a WALK", x.earliest(0, 7, 0), 220);
            DOC.same("six and a WALK", x.cheapest(0, 7, 0, MOST), 18);
            DOC.same("six and a WALK", x.latest(0, 7, 220), 100);
            DOC.same("six and a WALK", x.find(0, 7, 0), 7);
        });
        DOC.says("It ends at T + 2880 or earlier.", () -> {
            WhistleStop x = Timetables.on(2, 2, 0, 0, 0);
            Timetables.shuttle(x, 6, 0, 10, 1, 20);
            x.addFootway(1, 2, 1);
            DOC.same("a RIDE up to T + 2880", x.earliest(0, 1, 20), 2900);
            DOC.same("a RIDE behind T + 2880", x.earliest(0, 1, 19), -1);
            DOC.same("a WALK up to T + 2880", x.earliest(0, 2, 21), 2901);
            DOC.same("a WALK behind T + 2880", x.earliest(0, 2, 20), -1);
            DOC.same("cheapest", x.cheapest(0, 2, 21, MOST), 6);
            DOC.same("cheapest", x.cheapest(0, 2, 20, MOST), -1);
            DOC.same("find", x.find(0, 2, 21), 2);
            DOC.same("find", x.find(0, 2, 20), -1);
            DOC.same("latest, of a short one", x.latest(0, 2, LAST_TIME), 2890);
        });
        DOC.says("From a stop to itself there is a JOURNEY without legs, too; it ends at T.", () -> {
            WhistleStop x = Timetables.daily(30, 0);
            Timetables.row(x, 100, 0, 1, 0);
            DOC.same("earliest", x.earliest(0, 0, 100), 100);
            DOC.same("earliest", x.earliest(0, 0, LAST_TIME), LAST_TIME);
            DOC.same("withRides", x.withRides(0, 0, 0, 0), 0);
            DOC.same("rides", x.rides(0, 0, 100), 0);
            DOC.same("cheapest", x.cheapest(0, 0, 100, 100), 0);
            DOC.same("latest", x.latest(0, 0, 99), 99);
            DOC.same("reached", x.reached(0, 100, 0), 1);
            DOC.same("find", x.find(0, 0, 100), 0);
        });
        DOC.says("The EARLIEST time is the least at which a JOURNEY ends.", () -> {
            WhistleStop x = Timetables.daily(0, 0, 0);
            Timetables.shuttle(x, 0, 0, 100, 2, 150);
            DOC.same("one", x.earliest(0, 2, 100), 150);
            Timetables.shuttle(x, 0, 0, 120, 2, 149);
            DOC.same("an earlier one that begins later", x.earliest(0, 2, 100), 149);
            Timetables.row(x, 128, 0, 1, 2);
            DOC.same("an earlier one over a stop", x.earliest(0, 2, 100), 148);
            x.addFootway(0, 2, 47);
            DOC.same("an earlier one on foot", x.earliest(0, 2, 100), 147);
        });
    }

    private static void theOneThatIsKept() {
        DOC.says("The one that is kept (see find()) is, of those that end at the EARLIEST time, one with as few RIDES "
            + "as can be;", () -> {
                WhistleStop x = Timetables.daily(0, 0, 0);
                Timetables.shuttle(x, 0, 0, 100, 1, 110);
                Timetables.shuttle(x, 0, 1, 110, 2, 150);
                Timetables.shuttle(x, 0, 0, 100, 2, 151);
                sameJourney(x, 0, 2, 100, "0 to 1 100-110; 1 to 2 110-150");
                Timetables.shuttle(x, 0, 0, 100, 2, 150);
                sameJourney(x, 0, 2, 100, "3 to 2 100-150");
                x.addFootway(0, 2, 50);
                sameJourney(x, 0, 2, 100, "-1 to 2 100-150");
                sameJourney(x, 0, 2, 99, "-1 to 2 99-149");
            });
        DOC.says("of several the one whose first leg is ahead, of several of these the one whose second leg is ahead, "
            + "and so on,", () -> {
                WhistleStop x = Timetables.daily(0, 0, 0, 0, 0);
                Timetables.shuttle(x, 0, 2, 50, 3, 90);
                Timetables.shuttle(x, 0, 0, 10, 1, 20);
                Timetables.shuttle(x, 0, 0, 10, 2, 20);
                Timetables.shuttle(x, 0, 1, 40, 3, 90);
                sameJourney(x, 0, 3, 0, "1 to 1 10-20; 3 to 3 40-90");
                Timetables.shuttle(x, 0, 3, 95, 4, 100);
                Timetables.shuttle(x, 0, 3, 90, 4, 100);
                sameJourney(x, 0, 4, 0, "1 to 1 10-20; 3 to 3 40-90; 4 to 4 95-100");
                x.cancel(4, 0);
                sameJourney(x, 0, 4, 0, "1 to 1 10-20; 3 to 3 40-90; 5 to 4 90-100");
                x.cancel(1, 0);
                sameJourney(x, 0, 4, 0, "2 to 2 10-20; 0 to 3 50-90; 5 to 4 90-100");
            });
        DOC.says("where one that has ended is ahead of one that goes on:", () -> {
            WhistleStop x = Timetables.daily(0, 0);
            x.addTrip(0, 0, 0, 5);
            x.addCall(0, 1, 5, 5);
            x.addCall(0, 0, 5, 5);
            x.addCall(0, 1, 5, 5);
            sameJourney(x, 0, 0, 5, "");
            DOC.same("legs()", x.legs(), 0);
            sameJourney(x, 0, 1, 5, "0 to 1 5-5");
        });
        DOC.says("RIDES are ahead of WALKS;", () -> {
            WhistleStop x = Timetables.daily(0, 0, 0, 0);
            Timetables.shuttle(x, 0, 1, 30, 2, 60);
            Timetables.shuttle(x, 0, 0, 20, 1, 55);
            x.addFootway(0, 1, 10);
            x.addFootway(1, 2, 5);
            sameJourney(x, 0, 2, 0, "1 to 1 20-55; -1 to 2 55-60");
            Timetables.shuttle(x, 0, 3, 0, 0, 10);
            sameJourney(x, 3, 2, 0, "2 to 0 0-10; 1 to 1 20-55; -1 to 2 55-60");
        });
        DOC.says("of RIDES the one by the trip with the smaller number,", () -> {
            WhistleStop x = Timetables.daily(0, 0, 0);
            Timetables.shuttle(x, 500, 0, 10, 1, 40);
            Timetables.shuttle(x, 0, 0, 20, 1, 40);
            Timetables.shuttle(x, 0, 1, 1500, 2, 1510);
            x.late(0, 0, 180);
            x.late(1, 0, 180);
            sameJourney(x, 0, 1, 0, "0 to 1 190-220");
            sameJourney(x, 0, 2, 0, "0 to 1 190-220; 2 to 2 1500-1510");
            sameJourney(x, 0, 1, 191, "1 to 1 200-220");
        });
        theSameTrip();
        DOC.says("of WALKS the one along the footway with the smaller number.", () -> {
            WhistleStop x = Timetables.daily(0, 0, 0, 0);
            x.addFootway(2, 0, 12);
            x.addFootway(1, 0, 10);
            x.addFootway(0, 1, 11);
            Timetables.shuttle(x, 0, 1, 30, 3, 60);
            sameJourney(x, 0, 3, 0, "-1 to 1 0-10; 0 to 3 30-60");
            Timetables.shuttle(x, 0, 2, 30, 3, 60);
            sameJourney(x, 0, 3, 18, "-1 to 2 18-30; 1 to 3 30-60");
            sameJourney(x, 0, 3, 19, "-1 to 1 19-29; 0 to 3 30-60");
            x.setChange(1, 30);
            x.addFootway(0, 1, 5);
            sameJourney(x, 0, 3, 20, "-1 to 1 20-30; 0 to 3 30-60");
            sameJourney(x, 0, 3, 21, "-1 to 1 21-26; 0 to 3 30-60");
        });
    }

    private static void theSameTrip() {
        DOC.says("then by the RUN of the earlier day,", () -> {
            WhistleStop x = Timetables.on(0, 1, 0, 0, 0);
            x.addTrip(0, 0, 0, 0);
            x.addCall(0, 0, 1500, 1500);
            x.addCall(0, 1, 1510, 1510);
            Timetables.shuttle(x, 0, 1, 2860, 2, 2870);
            x.cancel(1, 0);
            sameJourney(x, 0, 2, 1440, "0 to 1 1500-1510; 1 to 2 4300-4310");
            sameJourney(x, 0, 2, 1501, "0 to 1 2940-2950; 1 to 2 4300-4310");
            x.cancel(0, 0);
            sameJourney(x, 0, 2, 1440, "0 to 1 1440-2950; 1 to 2 4300-4310");
        });
        DOC.says("then from the call with the smaller number,", () -> {
            WhistleStop x = Timetables.daily(0, 0, 0);
            Timetables.row(x, 10, 0, 2, 0, 0, 1);
            sameJourney(x, 0, 1, 10, "0 to 1 10-50");
            sameJourney(x, 0, 1, 11, "0 to 1 30-50");
            sameJourney(x, 0, 1, 31, "0 to 1 40-50");
        });
        DOC.says("then to the one with the smaller number;", () -> {
            WhistleStop x = Timetables.daily(0, 0, 0, 0);
            Timetables.row(x, 10, 0, 1, 2, 1);
            Timetables.shuttle(x, 0, 2, 45, 3, 60);
            Timetables.shuttle(x, 0, 1, 40, 3, 60);
            sameJourney(x, 0, 3, 0, "0 to 1 10-20; 2 to 3 40-60");
            x.setChange(1, 21);
            sameJourney(x, 0, 3, 0, "0 to 2 10-30; 1 to 3 45-60");
            x.cancel(1, 0);
            x.setChange(1, 20);
            sameJourney(x, 0, 3, 0, "0 to 1 10-20; 2 to 3 40-60");
            sameJourney(x, 0, 1, 0, "0 to 1 10-20");
        });
    }

    private static void refusals() {
        DOC.says("A method that throws an exception changes nothing.", () -> new Refusals(DOC).changesNothing());
        DOC.says("If several exceptions apply, the one that is named first is thrown.",
            () -> new Refusals(DOC).firstNamed());
    }

    private static void headings() {
        DOC.says("Ahead of the calls `addStop`, `setChange`, `addFootway`, `addCalendar`, `except`, `runsOn`, "
            + "`addTrip`, `addCall`, `stops`, `trips`, `calls`, `stopOf` the interface says: ---- stops, calendars, "
            + "trips.", () -> DOC.same("stops()", Timetables.line().stops(), 4));
        DOC.says("Ahead of the calls `late`, `cancel`, `lateOf` the interface says: ---- what is late.",
            () -> DOC.same("lateOf(0, 0)", Timetables.line().lateOf(0, 0), 0));
        DOC.says("Ahead of the calls `departures`, `departsAt`, `tripAt` the interface says: ---- boards: RUNS that "
            + "depart from a stop (not at their last call; once for each such call), from a time on, up to 2880 "
            + "minutes later (counted); by times, then by numbers of trips, then by days of their RUNS, then by calls.",
            JourneySentencesTest::boards);
        DOC.says("Ahead of the calls `earliest`, `withRides`, `rides`, `cheapest`, `latest`, `reached`, `find` the "
            + "interface says: ---- journeys.", () -> DOC.same("earliest", Timetables.line().earliest(0, 3, 0), 159));
        DOC.says("Ahead of the calls `legs`, `legTrip`, `legTo`, `legBegin`, `legEnd`, `slack`, `price`, `holds`, "
            + "`earliestIf`, `moving`, `digest` the interface says: ---- the JOURNEY that is kept (as it was when it "
            + "was found, whatever is told later).", JourneySentencesTest::asItWasFound);
    }

    private static void boards() {
        WhistleStop x = Timetables.daily(0, 0);
        Timetables.row(x, 1500, 0, 1);
        Timetables.row(x, 60, 0, 0, 0);
        Timetables.shuttle(x, 0, 0, 60, 1, 100);
        Timetables.shuttle(x, 0, 1, 60, 0, 61);
        sameBoard(x, 0, 60, "1@60 2@60 1@70 0@1500 1@1500 2@1500 1@1510 0@2940 1@2940 2@2940");
        sameBoard(x, 0, 61, "1@70 0@1500 1@1500 2@1500 1@1510 0@2940 1@2940 2@2940");
        x.cancel(1, 0);
        x.late(0, 0, 10);
        sameBoard(x, 0, 60, "2@60 1@1500 2@1500 0@1510 1@1510 0@2940 1@2940 2@2940");
        sameBoard(x, 1, 0, "3@60 3@1500");
    }

    private static void asItWasFound() {
        WhistleStop x = Timetables.line();
        x.find(0, 3, 90);
        String found = Timetables.journeyOf(x);
        x.late(0, 0, 100);
        x.cancel(1, 0);
        x.except(0, 0, false);
        x.setChange(1, 0);
        x.addFootway(0, 3, 1);
        x.addCall(0, 3, 130, 130);
        Timetables.shuttle(x, 0, 0, 90, 3, 91);
        x.addStop(0);
        x.earliest(1, 3, 0);
        x.latest(2, 3, 100);
        x.cheapest(2, 3, 0, 100);
        x.reached(0, 0, 0);
        x.earliestIf(1, 1, 5);
        DOC.same("its legs", Timetables.journeyOf(x), found);
        DOC.same("slack()", x.slack(), 2);
        DOC.same("price()", x.price(), 42);
        DOC.same("moving()", x.moving(), 43.0 / 69.0);
        DOC.same("earliestIf, of its question", x.earliestIf(1, 1, 5), 91);
    }

    private static void sameBoard(WhistleStop x, int stop, int at, String due) {
        StringBuilder text = new StringBuilder();
        for (int place = 0; place < x.departures(stop, at); place++) {
            text.append(x.tripAt(stop, at, place)).append('@').append(x.departsAt(stop, at, place)).append(' ');
        }
        DOC.same("the board of " + stop + " from " + at, text.toString().strip(), due);
        DOC.same("behind its end", x.tripAt(stop, at, x.departures(stop, at)), -1);
        DOC.same("behind its end", x.departsAt(stop, at, x.departures(stop, at)), -1);
    }

    // ---- boards

    /** What each of the boards' methods refuses. */
    private static void refusesOfBoards(BoardQuestion question) {
        DOC.says("Throws `IndexOutOfBoundsException` if there is no such stop", () -> {
            WhistleStop x = Timetables.line();
            DOC.refusesEach(INDEX, "stop", stop -> question.answer(x, stop, 5), -1, 4, 15, 16, LEAST, MOST);
            DOC.refuses(INDEX, "without any", () -> question.answer(new WhistleStop(), 0, 5));
        });
    }

    private static void departures() {
        DOC.in("Promise 17: departures");
        DOC.says("Returns how many there are.", () -> {
            WhistleStop x = Timetables.on(2, 2, 0, 0);
            DOC.same("without trips", x.departures(0, 0), 0);
            x.addTrip(0, 0, 0, 100);
            DOC.same("a trip of one call", x.departures(0, 2980), 0);
            x.addCall(0, 0, 100, 110);
            x.addCall(0, 1, 120, 120);
            DOC.same("two calls", x.departures(0, 2980), 2);
            DOC.same("the last call", x.departures(1, 2980), 0);
            DOC.same("one has gone", x.departures(0, 2981), 1);
            DOC.same("both have gone", x.departures(0, 2991), 0);
            DOC.same("in 2880 minutes", x.departures(0, 100), 1);
            DOC.same("in 2881 minutes", x.departures(0, 99), 0);
            DOC.same("both", x.departures(0, 110), 2);
            x.late(0, 2, 180);
            DOC.same("180 minutes late", x.departures(0, 3170), 1);
            x.cancel(0, 2);
            DOC.same("cancelled", x.departures(0, 3170), 0);
        });
        DOC.says("Returns how many there are.", () -> {
            WhistleStop x = Timetables.daily(0, 0);
            for (int trip = 0; trip < 24; trip++) {
                x.addTrip(0, 0, 0, 0);
                for (int call = 1; call < 8; call++) {
                    x.addCall(trip, 0, call, call);
                }
            }
            DOC.same("a full board", x.departures(0, 0), 24 * (7 + 7 + 1));
            DOC.same("its last place", x.tripAt(0, 0, 359), 23);
            DOC.same("its last place", x.departsAt(0, 0, 359), 2880);
        });
        refusesOfBoards((x, stop, at) -> x.departures(stop, at));
        DOC.says("Throws `IllegalArgumentException` if at is not 0 to 500000", () -> {
            WhistleStop x = Timetables.line();
            DOC.refusesEach(ARGUMENT, "at", at -> x.departures(0, at), -1, 500001, LEAST, MOST);
            DOC.same("at 0", x.departures(0, 0), 2);
            DOC.same("at 500000", x.departures(0, LAST_TIME), 2);
        });
    }

    private static void departsAt() {
        DOC.in("Promise 18: departsAt");
        DOC.says("`place`: a place among them, from 0 on", () -> {
            WhistleStop x = Timetables.line();
            DOC.same("the place 0", x.departsAt(0, 0, 0), 100);
            DOC.same("the place 1", x.departsAt(0, 0, 1), 1540);
        });
        DOC.says("Returns when it departs; -1 if there are not so many.", () -> {
            WhistleStop x = Timetables.line();
            x.late(0, 1, 180);
            DOC.same("the last one", x.departsAt(0, 100, 2), 2980);
            DOC.same("a late one", x.departsAt(0, 100, 1), 1720);
            for (int place : new int[] {3, 4, 1343, 1344, 1000000, MOST}) {
                DOC.same("the place " + place, x.departsAt(0, 100, place), -1);
            }
            DOC.same("an empty board", x.departsAt(3, 0, 0), -1);
            DOC.same("a run of the day 347", x.departsAt(0, LAST_TIME, 0), 348 * 1440 + 100);
        });
        refusesOfBoards((x, stop, at) -> x.departsAt(stop, at, 0));
        DOC.says("Throws `IllegalArgumentException` if at is not 0 to 500000, or place is less than 0", () -> {
            WhistleStop x = Timetables.line();
            DOC.refusesEach(ARGUMENT, "at", at -> x.departsAt(0, at, 0), -1, 500001, LEAST, MOST);
            DOC.refusesEach(ARGUMENT, "place", place -> x.departsAt(0, 0, place), -1, LEAST);
            DOC.refusesEach(ARGUMENT, "place of an empty board", place -> x.departsAt(3, 0, place), -1, LEAST);
            DOC.same("at 0", x.departsAt(0, 0, 0), 100);
            DOC.same("at 500000", x.departsAt(0, LAST_TIME, 0), 348 * 1440 + 100);
        });
    }

    private static void tripAt() {
        DOC.in("Promise 19: tripAt");
        DOC.says("`place`: a place among them", () -> {
            WhistleStop x = Timetables.line();
            Timetables.shuttle(x, 0, 0, 90, 1, 120);
            DOC.same("the place 0", x.tripAt(0, 0, 0), 2);
            DOC.same("the place 1", x.tripAt(0, 0, 1), 0);
        });
        DOC.says("Returns its trip; -1 if there are not so many.", () -> {
            WhistleStop x = Timetables.line();
            DOC.same("the last one", x.tripAt(1, 127, 2), 1);
            for (int place : new int[] {3, 4, 1343, 1344, 1000000, MOST}) {
                DOC.same("the place " + place, x.tripAt(1, 127, place), -1);
            }
            DOC.same("an empty board", x.tripAt(3, 0, 0), -1);
            for (int trip = 2; trip < 24; trip++) {
                Timetables.shuttle(x, 0, 1, 127, 0, 150);
                DOC.same("the trip " + trip, x.tripAt(1, 127, trip - 1), trip);
            }
        });
        refusesOfBoards((x, stop, at) -> x.tripAt(stop, at, 0));
        DOC.says("Throws `IllegalArgumentException` if at is not 0 to 500000, or place is less than 0", () -> {
            WhistleStop x = Timetables.line();
            DOC.refusesEach(ARGUMENT, "at", at -> x.tripAt(1, at, 0), -1, 500001, LEAST, MOST);
            DOC.refusesEach(ARGUMENT, "place", place -> x.tripAt(1, 0, place), -1, LEAST);
            DOC.refusesEach(ARGUMENT, "place of an empty board", place -> x.tripAt(3, 0, place), -1, LEAST);
            DOC.same("at 0", x.tripAt(1, 0, 0), 1);
            DOC.same("at 500000", x.tripAt(1, LAST_TIME, 0), 1);
        });
    }

    // ---- journeys

    private static void refusesStops(Question question) {
        DOC.says("Throws `IndexOutOfBoundsException` if there is no such stop", () -> {
            WhistleStop x = Timetables.line();
            DOC.refusesEach(INDEX, "from", from -> question.answer(x, from, 0, 5), -1, 4, 15, 16, LEAST, MOST);
            DOC.refusesEach(INDEX, "to", to -> question.answer(x, 0, to, 5), -1, 4, 15, 16, LEAST, MOST);
            DOC.refuses(INDEX, "both", () -> question.answer(x, 4, 4, 5));
            DOC.refuses(INDEX, "without any", () -> question.answer(new WhistleStop(), 0, 0, 5));
        });
    }

    private static void refusesTimes(Question question) {
        WhistleStop x = Timetables.line();
        DOC.refusesEach(ARGUMENT, "at", at -> question.answer(x, 0, 3, at), -1, 500001, LEAST, MOST);
        DOC.refusesEach(ARGUMENT, "at, to itself", at -> question.answer(x, 0, 0, at), -1, 500001, LEAST, MOST);
    }

    private static void earliest() {
        DOC.in("Promise 20: earliest");
        DOC.says("`at`: a time T", () -> {
            WhistleStop x = Timetables.line();
            DOC.same("at T", x.earliest(0, 1, 100), 120);
            DOC.same("behind it", x.earliest(0, 1, 101), 1560);
        });
        DOC.says("Returns the EARLIEST time; -1 if there is no JOURNEY.", () -> {
            WhistleStop x = Timetables.line();
            DOC.same("0 to 3", x.earliest(0, 3, 0), 159);
            DOC.same("to itself", x.earliest(3, 3, 0), 0);
            DOC.same("none", x.earliest(3, 0, 0), -1);
            WhistleStop y = Timetables.withStops(0, 0);
            DOC.same("without trips and footways", y.earliest(0, 1, 0), -1);
        });
        refusesStops(WhistleStop::earliest);
        DOC.says("Throws `IllegalArgumentException` if at is not 0 to 500000", () -> {
            refusesTimes(WhistleStop::earliest);
            DOC.same("at 0", Timetables.line().earliest(0, 1, 0), 120);
            DOC.same("at 500000", Timetables.line().earliest(0, 1, LAST_TIME), 348 * 1440 + 120);
        });
    }

    private static void withRides() {
        DOC.in("Promise 21: withRides");
        DOC.says("`rides`: how many RIDES at most", () -> {
            WhistleStop x = Timetables.daily(0, 0, 0);
            Timetables.shuttle(x, 0, 0, 10, 1, 20);
            Timetables.shuttle(x, 0, 1, 20, 2, 30);
            Timetables.shuttle(x, 0, 0, 10, 2, 40);
            x.addFootway(0, 2, 50);
            int[] due = {50, 40, 30, 30, 30, 30, 30};
            for (int rides = 0; rides <= 6; rides++) {
                DOC.same(rides + " at most", x.withRides(0, 2, 0, rides), due[rides]);
            }
        });
        DOC.says("Returns the least time at which a JOURNEY with so many RIDES at most ends; -1 if there is none.",
            () -> {
                WhistleStop x = Timetables.chain(8, 0);
                for (int stop = 0; stop < 7; stop++) {
                    for (int rides = 0; rides <= 6; rides++) {
                        int due = rides < stop ? -1 : 100 + 10 * stop;
                        DOC.same("to " + stop + " with " + rides, x.withRides(0, stop, 100, rides), due);
                    }
                }
                DOC.same("seven are too many", x.withRides(0, 7, 100, 6), -1);
            });
        refusesStops((x, from, to, at) -> x.withRides(from, to, at, 6));
        DOC.says("Throws `IllegalArgumentException` if at is not 0 to 500000, or rides is not 0 to 6", () -> {
            refusesTimes((x, from, to, at) -> x.withRides(from, to, at, 6));
            WhistleStop x = Timetables.line();
            DOC.refusesEach(ARGUMENT, "rides", rides -> x.withRides(0, 1, 0, rides), -1, 7, LEAST, MOST);
            DOC.same("0 rides at 0", x.withRides(0, 1, 0, 0), -1);
            DOC.same("6 rides at 0", x.withRides(0, 1, 0, 6), 120);
            DOC.same("1 ride at 500000", x.withRides(0, 1, LAST_TIME, 1), 348 * 1440 + 120);
        });
    }

    private static void rides() {
        DOC.in("Promise 22: rides");
        DOC.says("Returns with how many RIDES one gets there at the EARLIEST time at least; -1 if there is no JOURNEY.",
            () -> {
                WhistleStop x = Timetables.chain(8, 0);
                for (int stop = 0; stop < 7; stop++) {
                    DOC.same("to " + stop, x.rides(0, stop, 0), stop);
                }
                DOC.same("seven are too many", x.rides(0, 7, 0), -1);
                DOC.same("none", x.rides(1, 0, 0), -1);
                Timetables.shuttle(x, 0, 0, 100, 4, 141);
                DOC.same("a later one with fewer", x.rides(0, 4, 0), 4);
                Timetables.shuttle(x, 0, 0, 100, 4, 140);
                DOC.same("one as early with fewer", x.rides(0, 4, 0), 1);
                x.addFootway(0, 4, 40);
                DOC.same("a walk as early", x.rides(0, 4, 100), 0);
                DOC.same("a walk", x.rides(0, 4, 101), 0);
            });
        refusesStops(WhistleStop::rides);
        DOC.says("Throws `IllegalArgumentException` if at is not 0 to 500000", () -> {
            refusesTimes(WhistleStop::rides);
            DOC.same("at 0", Timetables.line().rides(0, 3, 0), 2);
            DOC.same("at 500000", Timetables.line().rides(0, 3, LAST_TIME), 2);
        });
    }

    private static void cheapest() {
        DOC.in("Promise 23: cheapest");
        DOC.says("`by`: another time", () -> {
            WhistleStop x = Timetables.line();
            DOC.same("by its end", x.cheapest(0, 3, 0, 159), 42);
            DOC.same("a minute earlier", x.cheapest(0, 3, 0, 158), -1);
            DOC.same("by any time", x.cheapest(0, 3, 0, MOST), 42);
        });
        DOC.says("Returns the least sum of the prices of the RIDES of a JOURNEY that ends at by or earlier; -1 if "
            + "there is none.", JourneySentencesTest::cheapestOfSome);
        refusesStops((x, from, to, at) -> x.cheapest(from, to, at, MOST));
        DOC.says("Throws `IllegalArgumentException` if at is not 0 to 500000, or by is less than at", () -> {
            refusesTimes((x, from, to, at) -> x.cheapest(from, to, at, MOST));
            WhistleStop x = Timetables.line();
            DOC.refusesEach(ARGUMENT, "by", by -> x.cheapest(0, 1, 100, by), 99, 0, -1, LEAST);
            DOC.refusesEach(ARGUMENT, "by", by -> x.cheapest(0, 0, 0, by), -1, LEAST);
            DOC.refuses(ARGUMENT, "by", () -> x.cheapest(0, 0, LAST_TIME, LAST_TIME - 1));
            DOC.same("by at", x.cheapest(0, 0, 0, 0), 0);
            DOC.same("by at", x.cheapest(0, 0, LAST_TIME, LAST_TIME), 0);
            DOC.same("by at", x.cheapest(0, 1, 100, 100), -1);
            DOC.same("at 500000", x.cheapest(0, 1, LAST_TIME, MOST), 30);
        });
    }

    private static void cheapestOfSome() {
        WhistleStop x = Timetables.chain(8, 500);
        DOC.same("six times 500", x.cheapest(0, 6, 0, MOST), 3000);
        DOC.same("seven are too many", x.cheapest(0, 7, 0, MOST), -1);
        DOC.same("to itself", x.cheapest(5, 5, 3, 3), 0);
        DOC.same("none", x.cheapest(1, 0, 0, MOST), -1);
        x.addFootway(1, 3, 60);
        DOC.same("a WALK costs nothing", x.cheapest(0, 3, 0, 170), 500);
        DOC.same("it takes too long", x.cheapest(0, 3, 0, 169), 1500);
        DOC.same("and too long to go on by the same day", x.cheapest(0, 4, 0, 140), 2000);
        DOC.same("but the next day", x.cheapest(0, 4, 0, 1580), 1000);
        WhistleStop y = Timetables.daily(0, 5, 0);
        Timetables.shuttle(y, 10, 0, 100, 1, 110);
        Timetables.shuttle(y, 1, 1, 114, 2, 200);
        Timetables.shuttle(y, 7, 1, 115, 2, 200);
        DOC.same("the CHANGE is missed", y.cheapest(0, 2, 100, 200), 17);
        y.setChange(1, 4);
        DOC.same("the CHANGE is met", y.cheapest(0, 2, 100, 200), 11);
        Timetables.shuttle(y, 2, 0, 100, 1, 111);
        DOC.same("cheaper, and later", y.cheapest(0, 2, 100, 200), 9);
        y.setChange(1, 3);
        DOC.same("cheaper, and in time", y.cheapest(0, 2, 100, 200), 3);
        DOC.same("by an earlier time", y.cheapest(0, 2, 100, 199), -1);
        WhistleStop z = Timetables.daily(0, 30, 30, 0);
        Timetables.shuttle(z, 400, 0, 100, 1, 110);
        Timetables.shuttle(z, 100, 0, 100, 1, 112);
        z.addFootway(1, 2, 10);
        Timetables.shuttle(z, 5, 2, 120, 3, 130);
        DOC.same("a WALK in time for it", z.cheapest(0, 3, 100, 130), 405);
        DOC.same("the next day", z.cheapest(0, 3, 100, MOST), 105);
        z.late(2, 0, 2);
        DOC.same("it waits", z.cheapest(0, 3, 100, 132), 105);
        Timetables.shuttle(z, 0, 0, 100, 1, 2879);
        DOC.same("for nothing", z.cheapest(0, 1, 100, MOST), 0);
        DOC.same("for nothing, behind T + 2880", z.cheapest(0, 2, 8, MOST), 100);
        DOC.same("for nothing, up to T + 2880", z.cheapest(0, 2, 9, MOST), 0);
        cheapestOnFoot();
        cheapestOfManyOffers();
    }

    private static void cheapestOnFoot() {
        WhistleStop x = Timetables.daily(30, 30, 30);
        x.addFootway(0, 1, 10);
        DOC.same("a WALK alone", x.cheapest(0, 1, 5, 15), 0);
        DOC.same("a WALK alone, a minute less", x.cheapest(0, 1, 5, 14), -1);
        Timetables.shuttle(x, 8, 1, 20, 2, 30);
        DOC.same("a WALK first", x.cheapest(0, 2, 10, 30), 8);
        DOC.same("a WALK first, a minute later", x.cheapest(0, 2, 11, MOST), 8);
        DOC.same("a WALK first, a minute later, in time", x.cheapest(0, 2, 11, 1469), -1);
        DOC.same("to 0", x.cheapest(1, 0, 0, 10), 0);
        x.addFootway(1, 2, 1);
        DOC.same("no WALK behind a WALK", x.cheapest(0, 2, 10, 29), -1);
        x.addStop(0);
        x.addFootway(2, 3, 7);
        DOC.same("a WALK at the end", x.cheapest(1, 3, 20, 37), 8);
        DOC.same("a WALK at the end, a minute less", x.cheapest(1, 3, 20, 36), -1);
        WhistleStop y = Timetables.daily(5, 5, 5);
        Timetables.shuttle(y, 1, 0, 10, 1, 20);
        Timetables.shuttle(y, 2, 1, 25, 2, 25);
        DOC.same("a RIDE of no minute at by", y.cheapest(0, 2, 10, 25), 3);
        DOC.same("a RIDE of no minute behind by", y.cheapest(0, 2, 10, 24), -1);
    }

    /** 18 ways to the stop 0 that are told in no order, the later the cheaper; one can go on from there at 5 times. */
    private static void cheapestOfManyOffers() {
        WhistleStop x = Timetables.daily(0, 0, 0, 0, 0, 0, 0);
        for (int trip = 0; trip < 18; trip++) {
            int rank = 7 * trip % 18;
            Timetables.shuttle(x, 300 - 10 * rank, 1, 100, 0, 110 + 10 * rank);
        }
        int[] departs = {111, 152, 209, 210, 280};
        int[] due = {301, 261, 211, 201, 131};
        for (int to = 2; to < 7; to++) {
            Timetables.shuttle(x, 1, 0, departs[to - 2], to, 290);
        }
        for (int turn = 0; turn < 3; turn++) {
            for (int to = 2; to < 7; to++) {
                DOC.same("to " + to, x.cheapest(1, to, 100, 290), due[to - 2]);
                DOC.same("to " + to + " from 0", x.cheapest(0, to, 100, 290), 1);
                DOC.same("to " + to + " by any time", x.cheapest(1, to, 100, MOST), 131);
            }
            DOC.same("to 0", x.cheapest(1, 0, 100, 219), 300 - 100);
        }
        WhistleStop y = Timetables.daily(0, 0, 0);
        Timetables.shuttle(y, 50, 0, 100, 1, 120);
        Timetables.shuttle(y, 30, 0, 100, 1, 110);
        Timetables.shuttle(y, 20, 1, 130, 2, 140);
        DOC.same("what is earlier, and cheaper", y.cheapest(0, 2, 100, 140), 50);
        Timetables.shuttle(y, 40, 0, 100, 1, 105);
        Timetables.shuttle(y, 20, 1, 109, 2, 140);
        DOC.same("what is earlier, and dearer, stands aside", y.cheapest(0, 2, 100, 140), 50);
        y.cancel(2, 0);
        DOC.same("what is earlier, and dearer, is in time", y.cheapest(0, 2, 100, 140), 60);
    }

    private static void latest() {
        DOC.in("Promise 24: latest");
        DOC.says("Returns the latest T, not greater than at, and not less than 0, at which one can begin a JOURNEY "
            + "that ends at the time at, or earlier; -1 if there is none.", JourneySentencesTest::latestOfSome);
        refusesStops(WhistleStop::latest);
        DOC.says("Throws `IllegalArgumentException` if at is not 0 to 500000", () -> {
            refusesTimes(WhistleStop::latest);
            WhistleStop x = Timetables.line();
            DOC.same("at 0", x.latest(0, 1, 0), -1);
            DOC.same("at 0, to itself", x.latest(0, 0, 0), 0);
            DOC.same("at 500000", x.latest(0, 1, LAST_TIME), 347 * 1440 + 100);
        });
    }

    private static void latestOfSome() {
        WhistleStop x = Timetables.line();
        DOC.same("not greater than at", x.latest(1, 1, 70), 70);
        DOC.same("just in time", x.latest(0, 3, 159), 100);
        DOC.same("a minute less", x.latest(0, 3, 158), -1);
        DOC.same("a minute less, a day later", x.latest(0, 3, 1598), 100);
        DOC.same("on foot from 0", x.latest(2, 3, 9), 0);
        DOC.same("on foot from less than 0", x.latest(2, 3, 8), -1);
        DOC.same("none", x.latest(3, 0, LAST_TIME), -1);
        WhistleStop y = Timetables.on(0, 0, 0, 0, 0);
        Timetables.shuttle(y, 0, 0, 0, 1, 5);
        y.addFootway(1, 2, 5);
        y.addFootway(2, 0, 1);
        DOC.same("long ago", y.latest(0, 1, LAST_TIME), 0);
        DOC.same("long ago", y.latest(0, 1, 5), 0);
        DOC.same("not ahead of 0", y.latest(2, 1, 10), 5);
        DOC.same("not ahead of 0", y.latest(2, 1, 9), 4);
        DOC.same("not ahead of 0", y.latest(2, 1, 5), 0);
        DOC.same("not ahead of 0", y.latest(2, 1, 4), -1);
        y.late(0, 0, 1);
        DOC.same("a late one", y.latest(0, 1, 6), 1);
        DOC.same("a late one", y.latest(0, 1, 5), -1);
        WhistleStop z = Timetables.on(0, 0, 0, 0, 0, 0);
        Timetables.shuttle(z, 0, 0, 0, 1, 0);
        Timetables.shuttle(z, 0, 1, 10, 2, 2879);
        z.addFootway(2, 3, 1);
        DOC.same("one of 2880 minutes", z.latest(0, 3, LAST_TIME), 0);
        z.late(1, 0, 1);
        DOC.same("one of 2881 minutes", z.latest(0, 3, LAST_TIME), -1);
        DOC.same("one of 2880 minutes still", z.latest(0, 2, LAST_TIME), 0);
        latestOfManyDays();
    }

    private static void latestOfManyDays() {
        WhistleStop x = Timetables.daily(0, 0, 0);
        Timetables.shuttle(x, 0, 0, 1000, 1, 2000);
        Timetables.shuttle(x, 0, 1, 2001, 2, 2441);
        DOC.same("two RIDES of 1441 minutes", x.latest(0, 2, 400000), 276 * 1440 + 1000);
        for (int day = 0; day < 366; day++) {
            if (day % 3 != 0) {
                x.cancel(1, day);
            }
        }
        DOC.same("just in time for the day 30", x.latest(0, 2, 30 * 1440 + 2441), 30 * 1440 + 1000);
        DOC.same("three days earlier", x.latest(0, 2, 30 * 1440 + 2440), 27 * 1440 + 1000);
        WhistleStop y = Timetables.on(5, 5, 0, 0, 0);
        Timetables.shuttle(y, 0, 0, 20, 1, 2000);
        Timetables.shuttle(y, 0, 1, 2722, 2, 2722);
        Timetables.shuttle(y, 0, 0, 18, 2, 1000);
        y.late(1, 5, 178);
        DOC.same("one of 2880 minutes", y.latest(0, 2, 400000), 5 * 1440 + 20);
        y.late(1, 5, 179);
        DOC.same("one of 2880 minutes no more", y.latest(0, 2, 5 * 1440 + 2901), 5 * 1440 + 18);
        DOC.same("one of 2881 minutes hides a shorter one", y.latest(0, 2, 400000), 5 * 1440 + 18);
        Timetables.shuttle(y, 0, 1, 2721, 2, 2721);
        y.late(3, 5, 179);
        for (int at = 2900; at < 2904; at++) {
            DOC.same("one of 2880 minutes again, by " + at, y.latest(0, 2, 5 * 1440 + at), 5 * 1440 + 20);
        }
        DOC.same("but not in time", y.latest(0, 2, 5 * 1440 + 2899), 5 * 1440 + 18);
    }

    private static void reached() {
        DOC.in("Promise 25: reached");
        DOC.says("`within`: some minutes", () -> {
            WhistleStop x = Timetables.line();
            int[][] due = {{0, 1}, {19, 1}, {20, 2}, {49, 2}, {50, 3}, {58, 3}, {59, 4}, {2880, 4}};
            for (int[] each : due) {
                DOC.same("within " + each[0], x.reached(0, 100, each[0]), each[1]);
            }
        });
        DOC.says("Returns to how many stops, itself too, a JOURNEY ends at T + within, or earlier.", () -> {
            WhistleStop x = Timetables.on(1, 1, 9, 9, 9, 9);
            DOC.same("itself", x.reached(2, 0, 2880), 1);
            x.addFootway(0, 1, 10);
            DOC.same("on foot", x.reached(0, 70, 10), 2);
            DOC.same("a minute less", x.reached(0, 70, 9), 1);
            Timetables.shuttle(x, 0, 1, 1400, 2, 1440);
            Timetables.shuttle(x, 0, 1, 1400, 2, 1439);
            DOC.same("at T + 2880", x.reached(1, 0, 2880), 3);
            DOC.same("at T + 2879", x.reached(1, 0, 2879), 3);
            DOC.same("behind T + 2878", x.reached(1, 0, 2878), 2);
            Timetables.shuttle(x, 0, 3, 5, 2, 5);
            DOC.same("within no minute", x.reached(3, 1445, 0), 2);
            DOC.same("within no minute", x.reached(3, 1444, 0), 1);
        });
        DOC.says("Throws `IndexOutOfBoundsException` if there is no such stop", () -> {
            WhistleStop x = Timetables.line();
            DOC.refusesEach(INDEX, "from", from -> x.reached(from, 5, 5), -1, 4, 15, 16, LEAST, MOST);
            DOC.refuses(INDEX, "without any", () -> new WhistleStop().reached(0, 5, 5));
        });
        DOC.says("Throws `IllegalArgumentException` if at is not 0 to 500000, or within is not 0 to 2880", () -> {
            WhistleStop x = Timetables.line();
            DOC.refusesEach(ARGUMENT, "at", at -> x.reached(0, at, 5), -1, 500001, LEAST, MOST);
            DOC.refusesEach(ARGUMENT, "within", within -> x.reached(0, 5, within), -1, 2881, LEAST, MOST);
            DOC.same("0 at 0", x.reached(0, 0, 0), 1);
            DOC.same("2880 at 500000", x.reached(0, LAST_TIME, 2880), 4);
            WhistleStop full = Timetables.withStops(new int[16]);
            for (int stop = 1; stop < 16; stop++) {
                full.addFootway(0, stop, stop);
            }
            DOC.same("all stops", full.reached(0, 0, 15), 16);
            DOC.same("all but one", full.reached(0, 0, 14), 15);
        });
    }

    private static void find() {
        DOC.in("Promise 26: find");
        DOC.says("Looks for a JOURNEY, and keeps it in place of the one before, with its question (from, to, at); if "
            + "there is none, none is kept.", () -> {
                WhistleStop x = Timetables.line();
                sameJourney(x, 0, 3, 100, "0 to 1 100-120; 1 to 2 127-150; -1 to 3 150-159");
                DOC.same("of its question", x.earliestIf(0, 0, 180), 1599);
                sameJourney(x, 1, 3, 127, "1 to 2 127-150; -1 to 3 150-159");
                DOC.same("of its question", x.earliestIf(0, 0, 180), 159);
                DOC.same("its slack", x.slack(), -1);
                DOC.same("its price", x.price(), 12);
                DOC.same("none", x.find(3, 0, 0), -1);
                DOC.same("none is kept", x.legs(), -1);
                DOC.refuses(Sentences.STATE, "price()", x::price);
                DOC.refuses(Sentences.STATE, "earliestIf(0, 0, 0)", () -> x.earliestIf(0, 0, 0));
            });
        DOC.says("Returns how many legs it has; -1 if there is none.", () -> {
            WhistleStop x = Timetables.daily(new int[14]);
            for (int stop = 1; stop < 12; stop += 2) {
                x.addFootway(stop, stop - 1, 10);
                Timetables.shuttle(x, 0, stop, 10 * stop, stop + 1, 10 * stop + 10);
            }
            x.addFootway(12, 13, 10);
            for (int stop = 0; stop < 14; stop++) {
                DOC.same("to " + stop, x.find(0, stop, 0), stop);
            }
            DOC.same("none", x.find(13, 0, 0), -1);
            DOC.same("a minute later, 13 legs", x.find(0, 13, 1), 13);
            x.cancel(0, 1);
            DOC.same("none any more", x.find(0, 13, 1), -1);
        });
        refusesStops(WhistleStop::find);
        DOC.says("Throws `IllegalArgumentException` if at is not 0 to 500000", () -> {
            refusesTimes(WhistleStop::find);
            DOC.same("at 0", Timetables.line().find(0, 3, 0), 3);
            DOC.same("at 500000", Timetables.line().find(0, 3, LAST_TIME), 3);
        });
    }
}
