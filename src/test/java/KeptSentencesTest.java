/** A test for each sentence on the journey that is kept: promises 27 to 37. */
public final class KeptSentencesTest {
    private static final int LEAST = Sentences.LEAST;
    private static final int MOST = Sentences.MOST;
    private static final Class<IndexOutOfBoundsException> INDEX = Sentences.INDEX;
    private static final Class<IllegalArgumentException> ARGUMENT = Sentences.ARGUMENT;
    private static final Class<IllegalStateException> STATE = Sentences.STATE;

    private static final Sentences DOC = new Sentences();

    private interface LegQuestion {
        int answer(WhistleStop x, int leg);
    }

    private interface Question {
        Object answer(WhistleStop x);
    }

    public static void main(String[] args) {
        legs();
        legTrip();
        legTo();
        legBegin();
        legEnd();
        slack();
        price();
        holds();
        earliestIf();
        moving();
        digest();
        DOC.end("Promise 27: legs", "Promise 28: legTrip", "Promise 29: legTo", "Promise 30: legBegin",
            "Promise 31: legEnd", "Promise 32: slack", "Promise 33: price", "Promise 34: holds",
            "Promise 35: earliestIf", "Promise 36: moving", "Promise 37: digest");
    }

    /** line(), with the journey of three legs from 0 to 3 kept. */
    private static WhistleStop kept() {
        WhistleStop x = Timetables.line();
        x.find(0, 3, 100);
        return x;
    }

    /** WALKS from each stop to the next one, and 6 RIDES between them: 13 legs, each of 10 minutes, from 0 to 13. */
    private static WhistleStop longest() {
        WhistleStop x = Timetables.daily(new int[14]);
        for (int stop = 0; stop < 13; stop++) {
            if (stop % 2 == 0) {
                x.addFootway(stop, stop + 1, 10);
            } else {
                Timetables.shuttle(x, 500, stop, 10 * stop, stop + 1, 10 * stop + 10);
            }
        }
        x.find(0, 13, 0);
        return x;
    }

    /** What is refused, if no JOURNEY is kept: ahead of find(), and behind one in vain. */
    private static void refusesWithoutJourney(Question question) {
        DOC.says("Throws `IllegalStateException` if no JOURNEY is kept", () -> {
            DOC.refuses(STATE, "of a new object", () -> question.answer(new WhistleStop()));
            WhistleStop x = Timetables.line();
            DOC.refuses(STATE, "ahead of find()", () -> question.answer(x));
            x.earliest(0, 3, 0);
            DOC.refuses(STATE, "behind earliest()", () -> question.answer(x));
            x.find(0, 3, 0);
            x.find(3, 0, 0);
            DOC.refuses(STATE, "behind find() in vain", () -> question.answer(x));
        });
    }

    private static void refusesLegs(LegQuestion question) {
        refusesWithoutJourney(x -> question.answer(x, 0));
        DOC.says("Throws `IndexOutOfBoundsException` if it has no such leg", () -> {
            WhistleStop x = kept();
            DOC.refusesEach(INDEX, "of three legs", leg -> question.answer(x, leg), -1, 3, 12, 13, LEAST, MOST);
            WhistleStop y = longest();
            DOC.refusesEach(INDEX, "of 13 legs", leg -> question.answer(y, leg), -1, 13, 14);
            y.find(2, 3, 0);
            DOC.refusesEach(INDEX, "of one leg", leg -> question.answer(y, leg), -1, 1, 2);
            y.find(4, 4, 0);
            DOC.refusesEach(INDEX, "of none", leg -> question.answer(y, leg), -1, 0, 1);
        });
    }

    private static void legs() {
        DOC.in("Promise 27: legs");
        DOC.says("Returns how many legs it has; -1 if none is kept.", () -> {
            DOC.same("of a new object", new WhistleStop().legs(), -1);
            WhistleStop x = longest();
            DOC.same("the most", x.legs(), 13);
            x.find(0, 1, 0);
            DOC.same("one", x.legs(), 1);
            x.find(1, 1, 0);
            DOC.same("none", x.legs(), 0);
            x.find(1, 0, 0);
            DOC.same("one", x.legs(), 1);
            x.find(2, 0, 0);
            DOC.same("in vain", x.legs(), -1);
        });
    }

    private static void legTrip() {
        DOC.in("Promise 28: legTrip");
        DOC.says("`leg`: a leg, from 0 on", () -> {
            DOC.same("the leg 0", kept().legTrip(0), 0);
            DOC.same("the leg 1", kept().legTrip(1), 1);
        });
        DOC.says("Returns its trip; -1 for a WALK.", () -> {
            WhistleStop x = longest();
            for (int leg = 0; leg < 13; leg++) {
                DOC.same("the leg " + leg, x.legTrip(leg), leg % 2 == 0 ? -1 : leg / 2);
            }
        });
        refusesLegs(WhistleStop::legTrip);
    }

    private static void legTo() {
        DOC.in("Promise 29: legTo");
        DOC.says("Returns the stop at which it ends.", () -> {
            WhistleStop x = longest();
            for (int leg = 0; leg < 13; leg++) {
                DOC.same("the leg " + leg, x.legTo(leg), leg + 1);
            }
            x.find(3, 2, 0);
            DOC.same("a footway back", x.legTo(0), 2);
        });
        refusesLegs(WhistleStop::legTo);
    }

    private static void legBegin() {
        DOC.in("Promise 30: legBegin");
        DOC.says("Returns when it begins.", () -> {
            WhistleStop x = longest();
            for (int leg = 0; leg < 13; leg++) {
                DOC.same("the leg " + leg, x.legBegin(leg), 10 * leg);
            }
            x.late(0, 0, 3);
            x.find(1, 3, 8);
            DOC.same("a RIDE, as it departs", x.legBegin(0), 13);
            DOC.same("a WALK, as the leg ahead ends", x.legBegin(1), 23);
            x.find(2, 3, 8);
            DOC.same("a WALK, at T", x.legBegin(0), 8);
        });
        refusesLegs(WhistleStop::legBegin);
    }

    private static void legEnd() {
        DOC.in("Promise 31: legEnd");
        DOC.says("Returns when it ends.", () -> {
            WhistleStop x = longest();
            for (int leg = 0; leg < 13; leg++) {
                DOC.same("the leg " + leg, x.legEnd(leg), 10 * leg + 10);
            }
            x.late(0, 347, 180);
            DOC.same("find(1, 3, 500000)", x.find(1, 3, 500000), 2);
            DOC.same("a RIDE of the day 348", x.legEnd(0), 348 * 1440 + 20);
            DOC.same("a WALK behind it", x.legEnd(1), 348 * 1440 + 30);
        });
        refusesLegs(WhistleStop::legEnd);
    }

    private static void slack() {
        DOC.in("Promise 32: slack");
        DOC.says("Returns the least number of minutes by which one of its RIDES that is not the first leg begins later "
            + "than it has to, by section 3, with the CHANGES as they were when it was found; -1 without such a RIDE.",
            KeptSentencesTest::slackOfSome);
        refusesWithoutJourney(WhistleStop::slack);
    }

    private static void slackOfSome() {
        WhistleStop x = kept();
        DOC.same("127 - 120 - 5", x.slack(), 2);
        x.setChange(1, 30);
        DOC.same("with the CHANGES as they were", x.slack(), 2);
        x.setChange(1, 7);
        x.find(0, 3, 100);
        DOC.same("127 - 120 - 7", x.slack(), 0);
        x.find(0, 1, 0);
        DOC.same("the first leg alone", x.slack(), -1);
        x.find(2, 3, 0);
        DOC.same("a WALK alone", x.slack(), -1);
        x.find(1, 3, 100);
        DOC.same("a RIDE that is the first leg, and a WALK", x.slack(), -1);
        x.find(2, 2, 0);
        DOC.same("without legs", x.slack(), -1);
        WhistleStop y = Timetables.daily(30, 30, 0, 4, 30);
        y.addFootway(0, 1, 10);
        Timetables.shuttle(y, 0, 1, 33, 2, 40);
        Timetables.shuttle(y, 0, 2, 45, 3, 50);
        Timetables.shuttle(y, 0, 3, 61, 4, 70);
        y.find(0, 4, 22);
        DOC.same("33 - 32, no CHANGE behind a WALK", y.slack(), 1);
        y.find(0, 4, 17);
        DOC.same("45 - 40 in the middle", y.slack(), 5);
        y.setChange(2, 2);
        y.setChange(3, 11);
        y.find(0, 4, 13);
        DOC.same("61 - 50 - 11 at the end", y.slack(), 0);
        y.find(0, 2, 13);
        DOC.same("33 - 23", y.slack(), 10);
        y.find(0, 2, 34);
        DOC.same("as good as a day", y.slack(), 1473 - 44);
    }

    private static void price() {
        DOC.in("Promise 33: price");
        DOC.says("Returns the sum of the prices of its RIDES.", () -> {
            WhistleStop x = kept();
            DOC.same("30 + 12", x.price(), 42);
            x.find(1, 3, 100);
            DOC.same("one RIDE, and a WALK", x.price(), 12);
            x.find(3, 2, 100);
            DOC.same("a WALK", x.price(), 0);
            x.find(3, 3, 100);
            DOC.same("without legs", x.price(), 0);
            DOC.same("the most", longest().price(), 3000);
        });
        refusesWithoutJourney(WhistleStop::price);
    }

    private static void holds() {
        DOC.in("Promise 34: holds");
        DOC.says("Returns whether it is a JOURNEY still, leg by leg by the same calls of the same RUNS (as late as "
            + "they are now), and footways, with the CHANGES as they are now, from T on, that ends at T + 2880 or "
            + "earlier; WALKS begin as section 3 tells.", () -> {
                holdsByCalls();
                holdsByRuns();
                holdsByChanges();
                holdsBetweenItsTimes();
                holdsOnFoot();
            });
        refusesWithoutJourney(WhistleStop::holds);
    }

    private static void holdsByCalls() {
        WhistleStop x = Timetables.daily(0, 0, 0, 0);
        Timetables.row(x, 10, 3, 0, 1, 2);
        Timetables.row(x, 35, 2, 1, 3, 1);
        x.cancel(1, 0);
        x.find(0, 3, 1440);
        DOC.same("its legs", Timetables.journeyOf(x), "0 to 1 1460-1470; 1 to 3 1485-1495");
        x.find(0, 3, 0);
        DOC.same("its legs", Timetables.journeyOf(x), "0 to 1 20-30; 1 to 3 1485-1495");
        DOC.same("at once", x.holds(), true);
        x.late(0, 0, 180);
        DOC.same("180 minutes late", x.holds(), true);
        x.late(1, 1, 180);
        DOC.same("from T on", x.holds(), true);
        x.find(0, 1, 1450);
        DOC.same("its legs", Timetables.journeyOf(x), "0 to 1 1460-1470");
        x.late(0, 0, 0);
        x.cancel(0, 2);
        DOC.same("another day", x.holds(), true);
        x.late(0, 1, 5);
        DOC.same("its day", x.holds(), true);
        x.find(0, 1, 1465);
        DOC.same("it departs at T", x.holds(), true);
        x.late(0, 1, 4);
        DOC.same("it departs ahead of T", x.holds(), false);
        x.late(0, 1, 180);
        DOC.same("it departs later", x.holds(), true);
        Timetables.shuttle(x, 0, 0, 0, 1, 0);
        x.cancel(0, 1);
        DOC.same("by the same RUN alone", x.holds(), false);
    }

    private static void holdsByRuns() {
        WhistleStop x = kept();
        DOC.same("at once", x.holds(), true);
        x.cancel(1, 0);
        DOC.same("cancelled", x.holds(), false);
        x.late(1, 0, 180);
        DOC.same("late", x.holds(), true);
        x.except(0, 0, false);
        DOC.same("its calendar does not run", x.holds(), false);
        x.except(0, 0, true);
        DOC.same("its calendar runs", x.holds(), true);
        x.cancel(0, 1);
        x.cancel(1, 1);
        DOC.same("another day", x.holds(), true);
        x.addCall(1, 0, 2879, 2879);
        DOC.same("another call", x.holds(), true);
        x.find(2, 2, 0);
        x.except(0, 0, false);
        DOC.same("without legs", x.holds(), true);
    }

    private static void holdsByChanges() {
        WhistleStop x = kept();
        x.setChange(1, 7);
        DOC.same("the CHANGE is just met", x.holds(), true);
        x.setChange(1, 8);
        DOC.same("the CHANGE is missed", x.holds(), false);
        x.late(1, 0, 1);
        DOC.same("it waits", x.holds(), true);
        x.late(0, 0, 1);
        DOC.same("it is missed again", x.holds(), false);
        x.setChange(1, 0);
        x.late(0, 0, 8);
        DOC.same("without a CHANGE", x.holds(), true);
        x.late(0, 0, 9);
        DOC.same("without a CHANGE", x.holds(), false);
        x.late(0, 0, 0);
        x.setChange(0, 30);
        x.setChange(2, 30);
        x.setChange(3, 30);
        DOC.same("at other stops", x.holds(), true);
    }

    private static void holdsBetweenItsTimes() {
        WhistleStop x = Timetables.on(0, 0, 0, 0, 0);
        Timetables.shuttle(x, 0, 0, 100, 1, 2870);
        x.addFootway(1, 2, 5);
        x.late(0, 0, 10);
        x.find(0, 2, 105);
        x.late(0, 0, 5);
        DOC.same("it departs at T", x.holds(), true);
        x.late(0, 0, 4);
        DOC.same("it departs ahead of T", x.holds(), false);
        x.late(0, 0, 110);
        DOC.same("it ends at T + 2880", x.holds(), true);
        x.late(0, 0, 111);
        DOC.same("it ends behind T + 2880", x.holds(), false);
        x.late(0, 0, 10);
        x.find(0, 1, 105);
        x.late(0, 0, 115);
        DOC.same("a RIDE that ends at T + 2880", x.holds(), true);
        x.late(0, 0, 116);
        DOC.same("a RIDE that ends behind T + 2880", x.holds(), false);
    }

    private static void holdsOnFoot() {
        WhistleStop x = Timetables.daily(30, 30, 30, 30);
        Timetables.shuttle(x, 0, 0, 100, 1, 120);
        x.addFootway(1, 2, 10);
        Timetables.shuttle(x, 0, 2, 135, 3, 140);
        x.find(0, 3, 100);
        x.late(0, 0, 5);
        DOC.same("it begins as the leg ahead ends, now", x.holds(), true);
        x.late(0, 0, 6);
        DOC.same("and ends too late", x.holds(), false);
        x.late(1, 0, 1);
        DOC.same("it waits", x.holds(), true);
        x.find(1, 3, 126);
        DOC.same("it begins at T", x.holds(), true);
        x.late(1, 0, 0);
        DOC.same("and ends too late", x.holds(), false);
        x.addFootway(1, 2, 1);
        DOC.same("by the same footway", x.holds(), false);
        x.find(1, 2, 126);
        x.cancel(0, 0);
        x.cancel(1, 0);
        DOC.same("a WALK alone", x.holds(), true);
    }

    private static void earliestIf() {
        DOC.in("Promise 35: earliestIf");
        DOC.says("What earliest() would tell for the question of the JOURNEY that is kept, if a RUN was later; nothing "
            + "is changed.", () -> {
                WhistleStop x = kept();
                x.late(0, 1, 9);
                x.cancel(1, 1);
                String legs = Timetables.journeyOf(x);
                long digest = x.digest();
                DOC.same("the CHANGE is just met", x.earliestIf(0, 0, 2), 159);
                DOC.same("the CHANGE is missed", x.earliestIf(0, 0, 3), -1);
                DOC.same("less late", x.earliestIf(0, 1, 0), 159);
                DOC.same("as if it was not cancelled", x.earliestIf(1, 1, 180), 159);
                DOC.same("its legs", Timetables.journeyOf(x), legs);
                DOC.same("digest()", x.digest(), digest);
                DOC.same("late still", x.late(0, 1, 9), 9);
                DOC.same("cancelled still", x.lateOf(1, 1), -1);
                DOC.same("cancelled still", x.late(1, 1, 0), -1);
                DOC.same("nothing was told", x.late(0, 0, 0), 0);
                DOC.same("earliest()", x.earliest(0, 3, 100), 159);
            });
        DOC.says("`minutes`: how late it would be, as if late() had told it (so it would run, though it is cancelled; "
            + "but not on a day on which its calendar does not run)", () -> {
                WhistleStop x = kept();
                x.cancel(1, 0);
                DOC.same("cancelled", x.earliest(0, 3, 100), 1599);
                DOC.same("though it is cancelled", x.earliestIf(1, 0, 0), 159);
                DOC.same("though it is cancelled", x.earliestIf(1, 0, 180), 339);
                DOC.same("another RUN", x.earliestIf(0, 0, 0), 1599);
                x.except(0, 0, false);
                DOC.same("its calendar does not run", x.earliestIf(1, 0, 0), 1599);
                DOC.same("still", x.lateOf(1, 0), -1);
                x.except(0, 0, true);
                DOC.same("cancelled still", x.lateOf(1, 0), -1);
            });
        DOC.says("Returns that.", () -> {
            WhistleStop x = Timetables.on(0, 0, 0, 0);
            Timetables.shuttle(x, 0, 0, 2700, 1, 2879);
            x.find(0, 1, 100);
            DOC.same("up to T + 2880", x.earliestIf(0, 0, 101), 2980);
            DOC.same("behind T + 2880", x.earliestIf(0, 0, 102), -1);
            x.find(1, 1, 50);
            DOC.same("to itself", x.earliestIf(0, 0, 180), 50);
        });
        refusesWithoutJourney(x -> x.earliestIf(0, 0, 0));
        DOC.says("Throws `IndexOutOfBoundsException` if there is no such trip", () -> {
            WhistleStop x = kept();
            DOC.refusesEach(INDEX, "trip", trip -> x.earliestIf(trip, 0, 0), -1, 2, 23, 24, LEAST, MOST);
            WhistleStop y = Timetables.withStops(0);
            y.find(0, 0, 0);
            DOC.refuses(INDEX, "without any", () -> y.earliestIf(0, 0, 0));
        });
        DOC.says("Throws `IllegalArgumentException` if day is not 0 to 365, or minutes is not 0 to 180", () -> {
            WhistleStop x = kept();
            DOC.refusesEach(ARGUMENT, "day", day -> x.earliestIf(0, day, 0), -1, 366, LEAST, MOST);
            DOC.refusesEach(ARGUMENT, "minutes", minutes -> x.earliestIf(0, 0, minutes), -1, 181, LEAST, MOST);
            DOC.same("at the least", x.earliestIf(0, 0, 0), 159);
            DOC.same("at the most", x.earliestIf(1, 365, 180), 159);
            DOC.same("180 minutes", x.earliestIf(1, 0, 180), 339);
        });
    }

    private static void moving() {
        DOC.in("Promise 36: moving");
        DOC.says("Returns the sum of all minutes that the JOURNEY that is kept is in RIDES, divided by how many "
            + "minutes there are from T to its end, not cut; 0 if none is kept, or it takes none.", () -> {
                DOC.same("none is kept", new WhistleStop().moving(), 0.0);
                WhistleStop x = kept();
                DOC.same("20 + 23 of 59", x.moving(), 43.0 / 59.0);
                x.find(0, 3, 0);
                DOC.same("20 + 23 of 159", x.moving(), 43.0 / 159.0);
                x.find(2, 3, 0);
                DOC.same("a WALK", x.moving(), 0.0);
                x.find(2, 2, 0);
                DOC.same("it takes none", x.moving(), 0.0);
                x.find(1, 2, 127);
                DOC.same("all of it", x.moving(), 1.0);
                x.find(3, 0, 0);
                DOC.same("in vain", x.moving(), 0.0);
                WhistleStop y = Timetables.on(0, 0, 0, 0, 0);
                Timetables.shuttle(y, 0, 0, 1, 1, 2);
                Timetables.shuttle(y, 0, 0, 5, 2, 5);
                y.find(0, 1, 1);
                DOC.same("1 of 1", y.moving(), 1.0);
                y.find(0, 1, 0);
                DOC.same("1 of 2", y.moving(), 0.5);
                y.find(0, 2, 5);
                DOC.same("a RIDE of no minute, at T", y.moving(), 0.0);
                y.find(0, 2, 4);
                DOC.same("a RIDE of no minute", y.moving(), 0.0);
                DOC.same("60 of 130", longest().moving(), 60.0 / 130.0);
            });
    }

    private static void digest() {
        DOC.in("Promise 37: digest");
        DOC.says("Computes a checksum. A number d starts with 2503; then d becomes d * 31 + v, which wraps around as a "
            + "64-bit integer, for each v in this order: stops(), trips(); for each trip calls(), and the stopOf() of "
            + "each of its calls; for each trip lateOf() on the days 0 to 6; legs(); if a JOURNEY is kept: for each "
            + "leg legTrip(), legTo(), legBegin(), legEnd(); slack(), price(), holds() (1 if so, 0 if not).", () -> {
                DOC.same("of a new object", new WhistleStop().digest(), sum(0, 0, -1));
                DOC.same("by hand", new WhistleStop().digest(), 2503L * 31 * 31 * 31 - 1);
                WhistleStop x = Timetables.line();
                x.late(1, 6, 8);
                x.late(1, 7, 9);
                x.cancel(0, 0);
                DOC.same("none is kept", x.digest(), sum(4, 2, 2, 0, 1, 2, 1, 2, -1, 0, 0, 0, 0, 0, 0, 0, 0, 0, 0, 0,
                    0, 8, -1));
                x.late(0, 0, 0);
                x.find(0, 3, 100);
                DOC.same("one is kept", x.digest(), sum(4, 2, 2, 0, 1, 2, 1, 2, 0, 0, 0, 0, 0, 0, 0, 0, 0, 0, 0, 0, 0,
                    8, 3, 0, 1, 100, 120, 1, 2, 127, 150, -1, 3, 150, 159, 2, 42, 1));
                x.late(0, 0, 3);
                DOC.same("it does not hold", x.digest(), sum(4, 2, 2, 0, 1, 2, 1, 2, 3, 0, 0, 0, 0, 0, 0, 0, 0, 0, 0,
                    0, 0, 8, 3, 0, 1, 100, 120, 1, 2, 127, 150, -1, 3, 150, 159, 2, 42, 0));
                x.find(3, 3, 7);
                DOC.same("without legs", x.digest(), sum(4, 2, 2, 0, 1, 2, 1, 2, 3, 0, 0, 0, 0, 0, 0, 0, 0, 0, 0, 0,
                    0, 8, 0, -1, 0, 1));
            });
        DOC.says("Returns d.", () -> {
            WhistleStop x = Timetables.withStops(0);
            x.find(0, 0, 0);
            DOC.same("by hand", x.digest(), ((((((2503L * 31 + 1) * 31) * 31) * 31 - 1) * 31) * 31) + 1);
            DOC.same("again", x.digest(), sum(1, 0, 0, -1, 0, 1));
        });
    }

    private static long sum(int... row) {
        long sum = 2503;
        for (int each : row) {
            sum = sum * 31 + each;
        }
        return sum;
    }
}
