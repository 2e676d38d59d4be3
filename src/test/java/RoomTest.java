import java.lang.management.ManagementFactory;

/** The fullest timetable: what its dearest 512 calls make stays small, and every call comes to an end soon. */
public final class RoomTest {
    private static final int CALLS = 512;
    // A tenth of 7.3 million elements, at 4 bytes each.
    private static final long MOST_BYTES = 2900000L;

    private static int wrong = 0;

    private interface Call {
        long answer(WhistleStop x, int turn);
    }

    public static void main(String[] args) {
        com.sun.management.ThreadMXBean threads =
            (com.sun.management.ThreadMXBean) ManagementFactory.getThreadMXBean();
        check(threads, "departsAt", (x, k) -> x.departsAt(k % 16, 1000 * k % 500000, k % 30));
        check(threads, "earliest", (x, k) -> x.earliest(k % 16, k / 16 % 16, 1000 * k % 500000));
        check(threads, "cheapest", (x, k) -> x.cheapest(k % 16, k / 16 % 16, 1000 * k % 500000, Integer.MAX_VALUE));
        check(threads, "latest", (x, k) -> x.latest(k % 16, k / 16 % 16, 1000 * k % 500000));
        check(threads, "latest in vain", (x, k) -> x.latest(k % 15, 15, 500000 - k));
        check(threads, "reached", (x, k) -> x.reached(k % 16, 1000 * k % 500000, 2880));
        check(threads, "find", (x, k) -> x.find(k % 16, k / 16 % 16, 1000 * k % 500000));
        check(threads, "earliestIf", (x, k) -> x.find(0, 9, 900) >= 0 ? x.earliestIf(k % 24, k % 366, k % 181) : 0);
        check(threads, "digest", (x, k) -> x.find(0, 9, 900) >= 0 ? x.digest() : 0);
        System.out.println(wrong == 0 ? "all calls stay in their room" : wrong + " calls take too much");
        if (wrong != 0) {
            System.exit(1);
        }
    }

    private static void check(com.sun.management.ThreadMXBean threads, String what, Call call) {
        full().stops();
        long thread = Thread.currentThread().getId();
        long before = threads.getThreadAllocatedBytes(thread);
        WhistleStop x = full();
        long sum = 0;
        for (int turn = 0; turn < CALLS; turn++) {
            sum += call.answer(x, turn);
        }
        long bytes = threads.getThreadAllocatedBytes(thread) - before;
        if (bytes > MOST_BYTES) {
            wrong++;
            System.out.println(what + " made " + bytes + " bytes (" + sum + ")");
        }
    }

    /** All numbers at their most; no trip ends at the stop 15, nor does a footway. */
    private static WhistleStop full() {
        WhistleStop x = new WhistleStop();
        for (int stop = 0; stop < 16; stop++) {
            x.addStop(stop % 7);
        }
        for (int footway = 0; footway < 20; footway++) {
            x.addFootway(footway % 15, (footway * 7 + 1) % 15 == footway % 15 ? (footway + 2) % 15
                : (footway * 7 + 1) % 15, 3 + footway);
        }
        for (int calendar = 0; calendar < 6; calendar++) {
            x.addCalendar(127, 0, 365);
        }
        for (int trip = 0; trip < 24; trip++) {
            int time = trip * 53;
            x.addTrip(trip % 6, (trip * 71 + 13) % 501, trip % 16, time);
            for (int call = 1; call < 8; call++) {
                time += 20 + (trip * call * 11) % 200;
                x.addCall(trip, (trip + call * (1 + trip % 4)) % 15, time, time + call % 3);
                time += 5;
            }
        }
        return x;
    }
}
