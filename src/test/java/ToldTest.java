/** Promises 1 to 9: what is told. */
public final class ToldTest {
    private static final int[] OUTSIDE = {-1, Integer.MIN_VALUE, Integer.MAX_VALUE};

    public static void main(String[] args) {
        newObject();
        segments();
        segmentsRefused();
        shut();
        shutRefused();
        tariffs();
        tariffsRefused();
        holidays();
        cap();
        vehicles();
        exempt();
        pay();
        Check.end("ToldTest");
    }

    private static void newObject() {
        GantryHall hall = new GantryHall();
        for (int what = 0; what <= 14; what++) {
            Check.same("1: many(" + what + ")", what == 7 ? 300 : 0, hall.many(what));
        }
        for (int owner = 0; owner < 4; owner++) {
            Check.same("1: ofOwner", 0, hall.ofOwner(owner, 0));
        }
        Check.index(hall, "1: no segment", () -> hall.ofSegment(0, 0));
        Check.index(hall, "1: no vehicle", () -> hall.ofVehicle(0, 0));
        Check.same("1: objects are apart", 0, new GantryHall().many(1));
    }

    private static void segments() {
        GantryHall hall = new GantryHall();
        Check.same("2: first", 0, hall.segment(0, 7, 1, 0));
        Check.same("2: second", 1, hall.segment(7, 0, 60, 3));
        Check.same("2: again the same", 2, hall.segment(7, 0, 60, 3));
        Check.same("2: count", 3, hall.many(1));
        int[] due = {7, 0, 60, 3, 0};
        for (int what = 0; what < 5; what++) {
            Check.same("2: ofSegment", due[what], hall.ofSegment(1, what));
        }
        for (int k = 3; k < 12; k++) {
            Check.same("2: number", k, hall.segment(1, 2, 30, 1));
        }
        Check.state(hall, "2: a 13th", () -> hall.segment(1, 2, 30, 1));
        Check.argument(hall, "2: argument ahead of state", () -> hall.segment(1, 1, 30, 1));
        Check.index(hall, "2: index ahead of all", () -> hall.segment(8, 8, 0, 1));
        Check.same("2: count stays", 12, hall.many(1));
    }

    private static void segmentsRefused() {
        GantryHall hall = new GantryHall();
        for (int bad : OUTSIDE) {
            Check.index(hall, "2: from", () -> hall.segment(bad, 1, 5, 0));
            Check.index(hall, "2: to", () -> hall.segment(1, bad, 5, 0));
            Check.index(hall, "2: owner", () -> hall.segment(1, 2, 5, bad));
            Check.argument(hall, "2: length", () -> hall.segment(1, 2, bad, 0));
        }
        Check.index(hall, "2: from 8", () -> hall.segment(8, 1, 5, 0));
        Check.index(hall, "2: to 8", () -> hall.segment(1, 8, 5, 0));
        Check.index(hall, "2: owner 4", () -> hall.segment(1, 2, 5, 4));
        Check.index(hall, "2: index ahead of argument", () -> hall.segment(1, 1, 0, 4));
        Check.argument(hall, "2: the same knot", () -> hall.segment(3, 3, 5, 0));
        Check.argument(hall, "2: length 0", () -> hall.segment(1, 2, 0, 0));
        Check.argument(hall, "2: length 61", () -> hall.segment(1, 2, 61, 0));
        Check.same("2: none is there", 0, hall.many(1));
    }

    private static void shut() {
        GantryHall hall = new GantryHall();
        hall.segment(0, 1, 10, 0);
        hall.segment(1, 2, 10, 0);
        hall.vehicle(0, 0, 0);
        hall.tariff(0, 1, 0, 0, 1);
        Check.same("3: first", 1, hall.shut(0, 2000, 2000));
        Check.same("3: toll ahead", 10, hall.toll(0, 0, 1999));
        Check.same("3: toll then", 0, hall.toll(0, 0, 2000));
        Check.same("3: toll behind", 10, hall.toll(0, 0, 2001));
        Check.same("3: of the other one", 10, hall.toll(0, 1, 2000));
        Check.same("3: of both", 2, hall.shut(1, 3000, 60000));
        Check.same("3: ahead of the longer one", 10, hall.toll(0, 1, 2999));
        Check.same("3: at its begin", 0, hall.toll(0, 1, 3000));
        Check.same("3: at its end", 0, hall.toll(0, 1, 60000));
        Check.same("3: behind it", 10, hall.toll(0, 1, 60001));
        for (int k = 3; k <= 8; k++) {
            Check.same("3: count", k, hall.shut(0, 0, 100 + k));
        }
        Check.same("3: the last one counts", 1, hall.ofSegment(0, 4));
        Check.state(hall, "3: a 9th", () -> hall.shut(1, 0, 0));
        Check.argument(hall, "3: argument ahead of state", () -> hall.shut(1, 1, 0));
        Check.index(hall, "3: index ahead of all", () -> hall.shut(2, 1, 0));
    }

    private static void shutRefused() {
        GantryHall hall = new GantryHall();
        Check.index(hall, "3: none is there", () -> hall.shut(0, 0, 0));
        hall.segment(0, 1, 10, 0);
        for (int bad : OUTSIDE) {
            Check.index(hall, "3: segment", () -> hall.shut(bad, 0, 0));
            Check.argument(hall, "3: from", () -> hall.shut(0, bad, 60000));
            Check.argument(hall, "3: to", () -> hall.shut(0, 0, bad));
        }
        Check.index(hall, "3: segment 1", () -> hall.shut(1, 0, 0));
        Check.argument(hall, "3: from 60001", () -> hall.shut(0, 60001, 60001));
        Check.argument(hall, "3: to 60001", () -> hall.shut(0, 60000, 60001));
        Check.argument(hall, "3: to ahead of from", () -> hall.shut(0, 10, 9));
        Check.same("3: the last minute", 1, hall.shut(0, 60000, 60000));
    }

    private static void tariffs() {
        GantryHall hall = new GantryHall();
        hall.segment(0, 1, 10, 2);
        hall.vehicle(2, 0, 0);
        Check.same("4: first", 1, hall.tariff(2, 5, 3, 40, 3));
        Check.same("4: later told, from an earlier day", 2, hall.tariff(2, 7, 0, 0, 2));
        Check.same("4: free ahead", 0, hall.toll(0, 0, 2879));
        Check.same("4: from its first day", 70, hall.toll(0, 0, 2880));
        Check.same("4: told last is in force", 70, hall.toll(0, 0, 4320));
        Check.same("4: of the same day", 3, hall.tariff(2, 1, 1, 0, 2));
        Check.same("4: told last of one day", 30, hall.toll(0, 0, 2880));
        Check.same("4: from a later day", 4, hall.tariff(2, 30, 9, 100, 50));
        Check.same("4: until then", 30, hall.toll(0, 0, 71999));
        Check.same("4: then", 480, hall.toll(0, 0, 72000));
        for (int k = 5; k <= 16; k++) {
            Check.same("4: count", k, hall.tariff(k % 4, 1, 0, 0, 20));
        }
        Check.state(hall, "4: a 17th", () -> hall.tariff(0, 1, 0, 0, 1));
        Check.argument(hall, "4: argument ahead of state", () -> hall.tariff(0, 1, 0, 0, 0));
        Check.index(hall, "4: index ahead of all", () -> hall.tariff(4, 0, 0, 0, 0));
        Check.same("4: count stays", 16, hall.many(5));
    }

    private static void tariffsRefused() {
        GantryHall hall = new GantryHall();
        for (int bad : OUTSIDE) {
            Check.index(hall, "4: owner", () -> hall.tariff(bad, 1, 0, 0, 1));
            Check.argument(hall, "4: rate", () -> hall.tariff(0, bad, 0, 0, 1));
            Check.argument(hall, "4: step", () -> hall.tariff(0, 1, bad, 0, 1));
            Check.argument(hall, "4: peak", () -> hall.tariff(0, 1, 0, bad, 1));
            Check.argument(hall, "4: day", () -> hall.tariff(0, 1, 0, 0, bad));
        }
        Check.index(hall, "4: owner 4", () -> hall.tariff(4, 1, 0, 0, 1));
        Check.argument(hall, "4: rate 0", () -> hall.tariff(0, 0, 0, 0, 1));
        Check.argument(hall, "4: rate 31", () -> hall.tariff(0, 31, 0, 0, 1));
        Check.argument(hall, "4: step 10", () -> hall.tariff(0, 1, 10, 0, 1));
        Check.argument(hall, "4: peak 101", () -> hall.tariff(0, 1, 0, 101, 1));
        Check.argument(hall, "4: today", () -> hall.tariff(0, 1, 0, 0, 0));
        Check.argument(hall, "4: day 51", () -> hall.tariff(0, 1, 0, 0, 51));
        hall.pass(1440);
        Check.argument(hall, "4: the next day is today now", () -> hall.tariff(0, 1, 0, 0, 1));
        Check.same("4: tomorrow", 1, hall.tariff(0, 30, 9, 100, 2));
    }

    private static void holidays() {
        GantryHall hall = new GantryHall();
        hall.segment(0, 1, 10, 0);
        hall.vehicle(0, 0, 0);
        hall.tariff(0, 1, 0, 50, 1);
        Check.same("5: a peak hour", 15, hall.toll(0, 0, 2880 + 420));
        for (int bad : OUTSIDE) {
            Check.argument(hall, "5: day", () -> hall.holiday(bad));
        }
        Check.argument(hall, "5: today", () -> hall.holiday(0));
        Check.argument(hall, "5: day 51", () -> hall.holiday(51));
        Check.same("5: first", 1, hall.holiday(2));
        Check.argument(hall, "5: again", () -> hall.holiday(2));
        Check.same("5: no peak hour", 10, hall.toll(0, 0, 2880 + 420));
        Check.same("5: the day behind", 15, hall.toll(0, 0, 4320 + 420));
        Check.same("5: the last one", 2, hall.holiday(50));
        for (int k = 3; k <= 10; k++) {
            Check.same("5: count", k, hall.holiday(k + 10));
        }
        Check.state(hall, "5: an 11th", () -> hall.holiday(40));
        Check.argument(hall, "5: argument ahead of state", () -> hall.holiday(50));
        Check.same("5: count stays", 10, hall.many(6));
        GantryHall other = new GantryHall();
        other.pass(2880);
        Check.argument(other, "5: today is later now", () -> other.holiday(2));
        Check.same("5: tomorrow", 1, other.holiday(3));
    }

    private static void cap() {
        GantryHall hall = new GantryHall();
        for (int bad : OUTSIDE) {
            Check.argument(hall, "6: cap", () -> hall.cap(bad));
        }
        Check.argument(hall, "6: cap 49", () -> hall.cap(49));
        Check.argument(hall, "6: cap 1000", () -> hall.cap(1000));
        Check.same("6: that at first", 300, hall.cap(50));
        Check.same("6: then", 50, hall.cap(999));
        Check.same("6: last", 999, hall.many(7));
    }

    private static void vehicles() {
        GantryHall hall = new GantryHall();
        for (int bad : OUTSIDE) {
            Check.argument(hall, "7: rank", () -> hall.vehicle(bad, 0, 0));
            Check.argument(hall, "7: emission", () -> hall.vehicle(0, bad, 0));
            Check.argument(hall, "7: account", () -> hall.vehicle(0, 0, bad));
        }
        Check.argument(hall, "7: rank 3", () -> hall.vehicle(3, 0, 0));
        Check.argument(hall, "7: emission 4", () -> hall.vehicle(0, 4, 0));
        Check.argument(hall, "7: account 3", () -> hall.vehicle(0, 0, 3));
        Check.same("7: first", 0, hall.vehicle(2, 3, 1));
        int[] due = {2, 3, 1, 0, 0, 0, 0, 0};
        for (int what = 0; what < 8; what++) {
            Check.same("7: ofVehicle", due[what], hall.ofVehicle(0, what));
        }
        for (int k = 1; k < 8; k++) {
            Check.same("7: number", k, hall.vehicle(0, 0, 2));
        }
        Check.state(hall, "7: a 9th", () -> hall.vehicle(0, 0, 0));
        Check.argument(hall, "7: argument ahead of state", () -> hall.vehicle(0, 0, 3));
        Check.same("7: count stays", 8, hall.many(2));
    }

    private static void exempt() {
        GantryHall hall = new GantryHall();
        hall.segment(0, 1, 10, 3);
        hall.vehicle(0, 0, 0);
        hall.vehicle(0, 0, 0);
        hall.tariff(3, 1, 0, 0, 1);
        for (int bad : OUTSIDE) {
            Check.index(hall, "8: vehicle", () -> hall.exempt(bad, 0, true));
            Check.index(hall, "8: owner", () -> hall.exempt(0, bad, true));
        }
        Check.index(hall, "8: vehicle 2", () -> hall.exempt(2, 0, true));
        Check.index(hall, "8: owner 4", () -> hall.exempt(0, 4, true));
        Check.same("8: was not", false, hall.exempt(0, 3, true));
        Check.same("8: was", true, hall.exempt(0, 3, true));
        Check.same("8: another owner", false, hall.exempt(0, 0, true));
        Check.same("8: set", 9, hall.ofVehicle(0, 5));
        Check.same("8: its toll", 0, hall.toll(0, 0, 1440));
        Check.same("8: of the other one", 10, hall.toll(1, 0, 1440));
        Check.same("8: ended", true, hall.exempt(0, 3, false));
        Check.same("8: is ended", false, hall.exempt(0, 3, false));
        Check.same("8: the rest of the set", 1, hall.ofVehicle(0, 5));
        Check.same("8: its toll again", 10, hall.toll(0, 0, 1440));
    }

    private static void pay() {
        GantryHall hall = new GantryHall();
        Check.index(hall, "9: none is there", () -> hall.pay(0, 1));
        hall.vehicle(0, 0, 0);
        hall.vehicle(0, 0, 0);
        for (int bad : OUTSIDE) {
            Check.index(hall, "9: vehicle", () -> hall.pay(bad, 1));
            Check.argument(hall, "9: coins", () -> hall.pay(0, bad));
        }
        Check.index(hall, "9: index ahead of argument", () -> hall.pay(2, 0));
        Check.argument(hall, "9: coins 0", () -> hall.pay(0, 0));
        Check.argument(hall, "9: coins 2001", () -> hall.pay(0, 2001));
        Check.same("9: one", 1, hall.pay(0, 1));
        Check.same("9: more", 2001, hall.pay(0, 2000));
        Check.same("9: balance", 2001, hall.ofVehicle(0, 3));
        Check.same("9: of the other one", 0, hall.ofVehicle(1, 3));
    }
}
