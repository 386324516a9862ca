import java.lang.management.ManagementFactory;

/** Calls that tell nothing new take no new room, however often they come. */
public final class RoomTest {
    private static final int TIMES = 300;
    /** What the counting itself may take. */
    private static final long SLACK = 4096;

    public static void main(String[] args) {
        GantryHall hall = full();
        ask(hall);
        long before = taken();
        for (int k = 0; k < TIMES; k++) {
            ask(hall);
        }
        long took = taken() - before;
        Check.same("took " + took + " bytes", true, took <= SLACK);
        Check.end("RoomTest");
    }

    private static long taken() {
        return ((com.sun.management.ThreadMXBean) ManagementFactory.getThreadMXBean()).getCurrentThreadAllocatedBytes();
    }

    private static GantryHall full() {
        GantryHall hall = new GantryHall();
        for (int k = 0; k < 12; k++) {
            hall.segment(k % 6, (k + 1) % 6, 10 + k, k % 4);
        }
        for (int k = 0; k < 8; k++) {
            hall.vehicle(k % 3, k % 4, k % 3);
        }
        for (int k = 0; k < 16; k++) {
            hall.tariff(k % 4, 1 + k, k % 10, k, 1 + k / 4);
        }
        for (int k = 0; k < 8; k++) {
            hall.shut(k, 1440 + k, 2000 + k);
        }
        hall.pass(2900);
        for (int k = 0; k < 60; k++) {
            hall.see(k % 8, k * 5 % 12, 2879 - 7 * k, k % 3);
        }
        return hall;
    }

    private static void ask(GantryHall hall) {
        hall.digest();
        hall.meanDue(1);
        for (int vehicle = 0; vehicle < 8; vehicle++) {
            hall.passages(vehicle, 1);
            hall.journeys(vehicle, 2);
            hall.bill(vehicle, 1, 999);
            hall.bestMinute(vehicle, vehicle);
            hall.control(vehicle, 0, 2900);
            hall.pay(vehicle, 1);
            hall.exempt(vehicle, 1, vehicle == 0);
            hall.correct(2, vehicle);
        }
    }
}
