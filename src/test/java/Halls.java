/** Halls to begin a test with. */
final class Halls {
    static final int DAY = 1440;

    /**
     * SEGMENTS 0 -> 1, 1 -> 2, 2 -> 3 and 4 -> 5, each of LENGTH 10, of the OWNERS 0 to 3; TARIFFS from DAY 1
     * on, by which they cost 30, 50, 70 and nothing; a VEHICLE of each ACCOUNT, of CLASS 0 and EMISSION 0.
     */
    static GantryHall told() {
        GantryHall hall = new GantryHall();
        hall.segment(0, 1, 10, 0);
        hall.segment(1, 2, 10, 1);
        hall.segment(2, 3, 10, 2);
        hall.segment(4, 5, 10, 3);
        for (int account = 0; account < 3; account++) {
            hall.vehicle(0, 0, account);
        }
        hall.tariff(0, 3, 0, 0, 1);
        hall.tariff(1, 5, 0, 0, 1);
        hall.tariff(2, 7, 0, 0, 1);
        return hall;
    }

    /** The one that is told, when NOW is that minute. */
    static GantryHall at(int minute) {
        GantryHall hall = told();
        until(hall, minute);
        return hall;
    }

    /** One SEGMENT of that LENGTH, with a RATE of 1 from DAY 1 on, a VEHICLE of each ACCOUNT; NOW is minute 1500. */
    static GantryHall ofLength(int length) {
        GantryHall hall = new GantryHall();
        hall.segment(0, 1, length, 0);
        for (int account = 0; account < 3; account++) {
            hall.vehicle(0, 0, account);
        }
        hall.tariff(0, 1, 0, 0, 1);
        until(hall, 1500);
        return hall;
    }

    /** The one that is told, with as many SEGMENTS and VEHICLES as may be. */
    static GantryHall many() {
        GantryHall hall = told();
        for (int k = 4; k < 12; k++) {
            hall.segment(6, 7, 1, 3);
        }
        for (int k = 3; k < 8; k++) {
            hall.vehicle(0, 0, 1);
        }
        return hall;
    }

    /** As many of all that is told and seen as may be. */
    static GantryHall full() {
        GantryHall hall = many();
        for (int k = 3; k < 16; k++) {
            hall.tariff(3, 1, 0, 0, 40);
        }
        for (int k = 0; k < 10; k++) {
            hall.holiday(30 + k);
        }
        for (int k = 0; k < 8; k++) {
            hall.shut(11, 50000, 50000);
        }
        for (int k = 0; k < 60; k++) {
            hall.see(k % 2, 3, 0, 2);
        }
        return hall;
    }

    /** Lets minutes go by until NOW is that one; answers all BILLS. */
    static int until(GantryHall hall, int minute) {
        int bills = 0;
        for (int left = minute - hall.many(0); left > 0; left = minute - hall.many(0)) {
            bills += hall.pass(Math.min(left, 3000));
        }
        return bills;
    }

    private Halls() {
    }
}
