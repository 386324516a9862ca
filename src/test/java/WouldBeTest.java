/** Promises 24 to 29: what would be. */
public final class WouldBeTest {
    private static final int[] OUTSIDE = {-1, Integer.MIN_VALUE, Integer.MAX_VALUE};

    public static void main(String[] args) {
        toll();
        tollRefused();
        bill();
        cheapest();
        bestMinute();
        wouldSave();
        digestOfNew();
        digestInOrder();
        Check.end("WouldBeTest");
    }

    private static void toll() {
        GantryHall hall = new GantryHall();
        hall.segment(0, 1, 7, 0);
        hall.vehicle(0, 0, 0);
        hall.vehicle(2, 3, 0);
        hall.tariff(0, 3, 2, 25, 1);
        Check.same("24: free", 0, hall.toll(1, 0, 1439));
        Check.same("24: plain", 21, hall.toll(0, 0, 1440));
        // 7 * (3 + 2 * 2) = 49, by 13 tenths 63 of 63.7, and 15 of 15.75 more.
        Check.same("24: of class 2 and emission 3", 63, hall.toll(1, 0, 1440));
        for (int hour = 0; hour < 24; hour++) {
            boolean isPeak = hour >= 7 && hour <= 9 || hour >= 16 && hour <= 18;
            int due = isPeak ? 78 : 63;
            Check.same("24: at hour " + hour, due, hall.toll(1, 0, 1440 + hour * 60));
            Check.same("24: at the end of hour " + hour, due, hall.toll(1, 0, 1440 + hour * 60 + 59));
        }
        hall.segment(1, 2, 10, 1);
        hall.tariff(1, 10, 0, 99, 1);
        Check.same("24: of 100 just the peak more", 199, hall.toll(0, 1, 1440 + 480));
        hall.holiday(1);
        Check.same("24: on a holiday", 63, hall.toll(1, 0, 1440 + 480));
        Check.same("24: behind it", 78, hall.toll(1, 0, 2880 + 480));
        hall.exempt(1, 0, true);
        Check.same("24: exempt", 0, hall.toll(1, 0, 2880));
        hall.shut(0, 0, 2880);
        Check.same("24: shut", 0, hall.toll(0, 0, 2880));
        Check.same("24: not shut", 21, hall.toll(0, 0, 2881));
        Check.same("24: the last minute", 21, hall.toll(0, 0, 72000));
    }

    private static void tollRefused() {
        GantryHall hall = new GantryHall();
        hall.segment(0, 1, 7, 0);
        hall.vehicle(0, 0, 0);
        for (int bad : OUTSIDE) {
            Check.index(hall, "24: vehicle", () -> hall.toll(bad, 0, 0));
            Check.index(hall, "24: segment", () -> hall.toll(0, bad, 0));
            Check.argument(hall, "24: minute", () -> hall.toll(0, 0, bad));
        }
        Check.index(hall, "24: vehicle 1", () -> hall.toll(1, 0, 0));
        Check.index(hall, "24: segment 1", () -> hall.toll(0, 1, 0));
        Check.argument(hall, "24: minute 72001", () -> hall.toll(0, 0, 72001));
        Check.index(hall, "24: index ahead of argument", () -> hall.toll(1, 0, -1));
    }

    private static void bill() {
        GantryHall hall = new GantryHall();
        hall.segment(0, 1, 10, 0);
        hall.segment(1, 2, 10, 1);
        hall.segment(2, 3, 10, 0);
        hall.vehicle(0, 0, 0);
        hall.tariff(0, 3, 0, 0, 1);
        hall.tariff(1, 5, 0, 0, 1);
        hall.pass(1500);
        Check.same("25: none", 0, hall.bill(0, 1, 999));
        hall.see(0, 0, 1450, 0);
        hall.see(0, 2, 1460, 0);
        hall.see(0, 1, 1470, 2);
        Check.same("25: with the inferred one", 110, hall.bill(0, 1, 110));
        Check.same("25: one less", 109, hall.bill(0, 1, 109));
        Check.same("25: the least cap", 50, hall.bill(0, 1, 50));
        Check.same("25: the cap stays", 300, hall.many(7));
        hall.exempt(0, 0, true);
        Check.same("25: exempt", 50, hall.bill(0, 1, 999));
        Check.same("25: far away", 0, hall.bill(0, Integer.MAX_VALUE, 999));
        for (int bad : OUTSIDE) {
            Check.index(hall, "25: vehicle", () -> hall.bill(bad, 1, 50));
            Check.argument(hall, "25: cap", () -> hall.bill(0, 1, bad));
        }
        Check.argument(hall, "25: day", () -> hall.bill(0, -1, 50));
        Check.argument(hall, "25: cap 49", () -> hall.bill(0, 1, 49));
        Check.argument(hall, "25: cap 1000", () -> hall.bill(0, 1, 1000));
        Check.index(hall, "25: index ahead of argument", () -> hall.bill(1, -1, 50));
        hall.pass(3000);
        hall.pass(3000);
        hall.pass(1139);
        Check.same("25: in its last minute", 50, hall.bill(0, 1, 999));
        hall.pass(1);
        Check.same("25: erased", 0, hall.bill(0, 1, 999));
    }

    private static void cheapest() {
        GantryHall hall = new GantryHall();
        hall.segment(0, 1, 50, 0);
        hall.segment(0, 2, 10, 0);
        hall.segment(2, 3, 10, 0);
        hall.segment(3, 1, 10, 0);
        hall.segment(1, 0, 1, 1);
        // Told against the way, so that one look over them does not do.
        hall.segment(6, 7, 1, 0);
        hall.segment(5, 6, 1, 0);
        hall.segment(4, 5, 1, 0);
        hall.segment(1, 4, 1, 0);
        hall.vehicle(0, 0, 0);
        hall.vehicle(1, 0, 0);
        hall.tariff(0, 2, 1, 50, 1);
        Check.same("26: all is free", 0, hall.cheapest(0, 0, 1));
        hall.pass(1440);
        Check.same("26: the way round", 60, hall.cheapest(0, 0, 1));
        Check.same("26: of class 1", 90, hall.cheapest(1, 0, 1));
        Check.same("26: over all", 60 + 8, hall.cheapest(0, 0, 7));
        Check.same("26: the same knot", 0, hall.cheapest(0, 7, 7));
        Check.same("26: one way", -1, hall.cheapest(0, 7, 0));
        Check.same("26: free back", 0, hall.cheapest(0, 1, 0));
        hall.shut(2, 1441, 1441);
        Check.same("26: not shut yet", 60, hall.cheapest(0, 0, 1));
        hall.pass(1);
        Check.same("26: shut", 100, hall.cheapest(0, 0, 1));
        Check.same("26: no way", -1, hall.cheapest(0, 2, 1));
        hall.pass(1);
        Check.same("26: open", 60, hall.cheapest(0, 0, 1));
        hall.exempt(0, 0, true);
        Check.same("26: exempt", 0, hall.cheapest(0, 0, 1));
        hall.exempt(0, 0, false);
        hall.pass(420);
        Check.same("26: in a peak hour", 90, hall.cheapest(0, 0, 1));
        for (int bad : OUTSIDE) {
            Check.index(hall, "26: vehicle", () -> hall.cheapest(bad, 0, 1));
            Check.index(hall, "26: from", () -> hall.cheapest(0, bad, 1));
            Check.index(hall, "26: to", () -> hall.cheapest(0, 0, bad));
        }
        Check.index(hall, "26: vehicle 2", () -> hall.cheapest(2, 0, 0));
        Check.index(hall, "26: from 8", () -> hall.cheapest(0, 8, 8));
        Check.index(hall, "26: to 8", () -> hall.cheapest(0, 0, 8));
    }

    private static void bestMinute() {
        GantryHall hall = new GantryHall();
        hall.segment(0, 1, 10, 0);
        hall.vehicle(0, 0, 0);
        Check.same("27: free at once", 0, hall.bestMinute(0, 0));
        hall.tariff(0, 2, 0, 50, 1);
        hall.pass(1440);
        Check.same("27: no less later", 1440, hall.bestMinute(0, 0));
        hall.pass(430);
        Check.same("27: behind the peak", 1440 + 600, hall.bestMinute(0, 0));
        hall.tariff(0, 1, 0, 100, 2);
        Check.same("27: on the next day", 2880, hall.bestMinute(0, 0));
        hall.shut(0, 2000, 2001);
        Check.same("27: shut in between", 2000, hall.bestMinute(0, 0));
        Check.same("27: nothing is changed", 1870, hall.many(0));
        hall.pass(131);
        Check.same("27: in the last minute of it", 2001, hall.bestMinute(0, 0));
        hall.pass(1);
        Check.same("27: behind it", 2880, hall.bestMinute(0, 0));
        hall.shut(0, 2002 + 1440, 60000);
        Check.same("27: too late", 2880, hall.bestMinute(0, 0));
        hall.shut(0, 2002 + 1439, 60000);
        Check.same("27: in the last minute of all", 2002 + 1439, hall.bestMinute(0, 0));
        hall.exempt(0, 0, true);
        Check.same("27: exempt", 2002, hall.bestMinute(0, 0));
        hall.segment(1, 2, 1, 1);
        hall.tariff(1, 1, 0, 0, 2);
        hall.pass(1440);
        hall.shut(1, 3500, 3500);
        Check.same("27: shut is less than a toll of 1", 3500, hall.bestMinute(0, 1));
        for (int bad : OUTSIDE) {
            Check.index(hall, "27: vehicle", () -> hall.bestMinute(bad, 0));
            Check.index(hall, "27: segment", () -> hall.bestMinute(0, bad));
        }
        Check.index(hall, "27: vehicle 1", () -> hall.bestMinute(1, 0));
        Check.index(hall, "27: segment 2", () -> hall.bestMinute(0, 2));
    }

    private static void wouldSave() {
        GantryHall hall = new GantryHall();
        hall.segment(0, 1, 10, 0);
        for (int rank = 0; rank < 3; rank++) {
            hall.vehicle(rank, 0, 0);
        }
        hall.tariff(0, 10, 5, 0, 1);
        hall.pass(1440);
        for (int rank = 0; rank < 3; rank++) {
            Check.same("28: without a bill", 0, hall.wouldSave(rank));
            hall.see(rank, 0, 1440, 0);
        }
        int[] due = {0, 1, 3};
        for (int rank = 0; rank < 3; rank++) {
            Check.same("28: of class " + rank, due[rank], hall.wouldSave(rank));
            Check.same("28: the class stays", rank, hall.ofVehicle(rank, 0));
        }
        hall.cap(150);
        Check.same("28: less than the cap", 1, hall.wouldSave(2));
        hall.cap(100);
        Check.same("28: all at the cap", 0, hall.wouldSave(2));
        hall.cap(999);
        hall.exempt(2, 0, true);
        Check.same("28: exempt", 0, hall.wouldSave(2));
        hall.pass(1440);
        Check.same("28: only of today", 0, hall.wouldSave(1));
        for (int bad : OUTSIDE) {
            Check.index(hall, "28: vehicle", () -> hall.wouldSave(bad));
        }
        Check.index(hall, "28: vehicle 3", () -> hall.wouldSave(3));
    }

    private static void digestOfNew() {
        long d = 4805;
        for (int what = 0; what <= 14; what++) {
            d = d * 31 + (what == 7 ? 300 : 0);
        }
        for (int k = 0; k < 16; k++) {
            d = d * 31;
        }
        Check.same("29: of a new one", d, new GantryHall().digest());
    }

    private static void digestInOrder() {
        GantryHall hall = new GantryHall();
        hall.segment(0, 1, 10, 0);
        hall.segment(1, 2, 20, 1);
        hall.segment(2, 5, 30, 3);
        hall.segment(3, 2, 5, 3);
        hall.vehicle(2, 1, 0);
        hall.vehicle(1, 3, 2);
        hall.tariff(0, 3, 1, 50, 1);
        hall.tariff(1, 4, 2, 50, 1);
        hall.tariff(3, 5, 3, 50, 1);
        Check.same("29: on the first day", DigestByAsking.of(hall), hall.digest());
        hall.see(0, 0, 0, 0);
        hall.pass(1440);
        hall.see(0, 1, 1440, 0);
        Check.same("29: on the second day", DigestByAsking.of(hall), hall.digest());
        hall.pass(1430);
        hall.see(0, 0, 1900, 0);
        hall.see(0, 2, 1960, 0);
        hall.see(1, 0, 2860, 2);
        hall.pass(20);
        hall.see(1, 0, 2880, 1);
        hall.see(0, 3, 2885, 1);
        hall.control(1, 2, 2885);
        Check.same("29: with two days", DigestByAsking.of(hall), hall.digest());
        Check.same("29: nothing is changed", DigestByAsking.of(hall), hall.digest());
        hall.pass(3000);
        Check.same("29: behind a closing", DigestByAsking.of(hall), hall.digest());
    }
}
