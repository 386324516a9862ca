import java.util.ArrayList;
import java.util.List;

/** Edges of what the terms say of calls that throw an exception, and of those that only ask. */
final class RefusedEdges {
    private static final int DAY = Halls.DAY;

    /** A call on that hall. */
    private interface On {
        void run(GantryHall hall);
    }

    static void test(Sentences terms) {
        terms.test("A method that throws an exception changes nothing.", RefusedEdges::changesNothing);
        terms.test("If several exceptions apply, the one that is named first is thrown.", RefusedEdges::namedFirst);
        terms.test("---- what would be (nothing is changed).", RefusedEdges::wouldBe);
    }

    private static List<On> refused() {
        List<On> calls = new ArrayList<>();
        calls.add(hall -> hall.segment(0, 1, 1, 4));
        calls.add(hall -> hall.segment(0, 1, 61, 0));
        calls.add(hall -> hall.shut(4, 0, 60000));
        calls.add(hall -> hall.shut(0, 0, 60001));
        calls.add(hall -> hall.tariff(4, 30, 0, 0, 2));
        calls.add(hall -> hall.tariff(0, 30, 0, 101, 2));
        calls.add(hall -> hall.tariff(0, 30, 0, 0, 1));
        calls.add(hall -> hall.holiday(1));
        calls.add(hall -> hall.holiday(2));
        calls.add(hall -> hall.cap(1000));
        calls.add(hall -> hall.vehicle(0, 0, 3));
        calls.add(hall -> hall.exempt(0, 4, true));
        calls.add(hall -> hall.exempt(3, 0, true));
        calls.add(hall -> hall.pay(0, 2001));
        calls.add(hall -> hall.see(0, 0, DAY + 1, 1));
        calls.add(hall -> hall.see(0, 0, DAY, 3));
        calls.add(hall -> hall.correct(1, 3));
        calls.add(hall -> hall.correct(0, 1));
        calls.add(hall -> hall.control(0, 4, DAY));
        calls.add(hall -> hall.control(0, 0, DAY + 1));
        calls.add(hall -> hall.dispute(0, 0));
        calls.add(hall -> hall.pass(3001));
        calls.add(hall -> hall.pass(0));
        return calls;
    }

    private static GantryHall begun() {
        GantryHall hall = Halls.at(DAY);
        hall.holiday(2);
        hall.see(0, 0, DAY, 0);
        hall.see(0, 1, DAY, 2);
        return hall;
    }

    /** What no question shows at once, as the HOLIDAYS to come, shows itself in what comes later. */
    private static void changesNothing() {
        GantryHall plain = begun();
        GantryHall tried = begun();
        int which = 0;
        for (On call : refused()) {
            Check.same("call " + which + " throws", true, isRefused(call, tried));
            Check.same("digest behind call " + which, plain.digest(), tried.digest());
            which++;
        }
        for (int day = 2; day <= 7; day++) {
            Check.same("BILLS", Halls.until(plain, day * DAY), Halls.until(tried, day * DAY));
            Check.same("TOLL", plain.toll(0, 0, day * DAY + 480), tried.toll(0, 0, day * DAY + 480));
            Check.same("digest on DAY " + day, plain.digest(), tried.digest());
        }
        counters();
        full();
    }

    private static boolean isRefused(On call, GantryHall hall) {
        try {
            call.run(hall);
            return false;
        } catch (RuntimeException e) {
            return Check.isThrownByProgram(e);
        }
    }

    /** None of them counts. */
    private static void counters() {
        GantryHall hall = begun();
        for (int k = 0; k < 20; k++) {
            for (On call : refused()) {
                isRefused(call, hall);
            }
        }
        Check.same("SEGMENT", 4, hall.segment(0, 1, 1, 0));
        Check.same("SHUT times", 1, hall.shut(0, 0, 0));
        Check.same("TARIFFS", 4, hall.tariff(0, 1, 0, 0, 2));
        Check.same("HOLIDAYS", 2, hall.holiday(3));
        Check.same("CAP", 300, hall.cap(50));
        Check.same("VEHICLE", 3, hall.vehicle(0, 0, 0));
        Check.same("SIGHTING", 2, hall.see(0, 0, 0, 0));
        Check.same("COINS", 1, hall.pay(0, 1));
    }

    private static void full() {
        GantryHall hall = Halls.full();
        Check.state(hall, "SEGMENT", () -> hall.segment(0, 1, 1, 0));
        Check.state(hall, "SHUT", () -> hall.shut(0, 0, 60000));
        Check.state(hall, "TARIFF", () -> hall.tariff(0, 30, 0, 0, 1));
        Check.state(hall, "HOLIDAY", () -> hall.holiday(1));
        Check.state(hall, "VEHICLE", () -> hall.vehicle(0, 0, 0));
        Check.state(hall, "SIGHTING", () -> hall.see(0, 0, 0, 0));
        Check.same("not SHUT", 30, hall.toll(0, 0, DAY));
        Check.same("no HOLIDAY", 10, hall.many(6));
        Check.same("no SIGHTING", 60, hall.many(3));
        Check.same("of all that were told", 30, hall.ofPassage(0, 0, 0, 2));
    }

    private static void namedFirst() {
        toldFirst();
        comesFirst();
        askedFirst();
    }

    private static void toldFirst() {
        GantryHall full = Halls.full();
        Check.index(full, "segment: KNOT ahead of LENGTH", () -> full.segment(8, 1, 0, 0));
        Check.index(full, "segment: OWNER ahead of the same KNOT", () -> full.segment(1, 1, 1, 4));
        Check.index(full, "segment: the same KNOT, outside", () -> full.segment(8, 8, 1, 0));
        Check.index(full, "segment: OWNER ahead of 12", () -> full.segment(0, 1, 1, 4));
        Check.argument(full, "segment: LENGTH ahead of 12", () -> full.segment(0, 1, 61, 0));
        Check.argument(full, "segment: the same KNOT ahead of 12", () -> full.segment(1, 1, 1, 0));
        Check.index(full, "shut: SEGMENT ahead of minutes", () -> full.shut(12, 1, 0));
        Check.index(full, "shut: SEGMENT ahead of 8 times", () -> full.shut(12, 0, 0));
        Check.argument(full, "shut: minutes ahead of 8 times", () -> full.shut(0, 1, 0));
        Check.index(full, "tariff: OWNER ahead of RATE", () -> full.tariff(4, 0, 0, 0, 1));
        Check.index(full, "tariff: OWNER ahead of 16", () -> full.tariff(4, 1, 0, 0, 1));
        Check.argument(full, "tariff: DAY ahead of 16", () -> full.tariff(0, 1, 0, 0, 0));
        Check.argument(full, "holiday: DAY ahead of 10", () -> full.holiday(51));
        Check.argument(full, "holiday: a HOLIDAY ahead of 10", () -> full.holiday(30));
        Check.argument(full, "vehicle: CLASS ahead of 8", () -> full.vehicle(3, 0, 0));
        Check.index(full, "pay: VEHICLE ahead of coins", () -> full.pay(8, 0));
    }

    private static void comesFirst() {
        GantryHall full = Halls.full();
        Halls.until(full, 2 * DAY);
        Check.index(full, "see: VEHICLE ahead of SOURCE", () -> full.see(8, 0, 0, 3));
        Check.index(full, "see: SEGMENT ahead of minute", () -> full.see(0, 12, -1, 0));
        Check.index(full, "see: VEHICLE ahead of CLOSED", () -> full.see(8, 0, 0, 0));
        Check.argument(full, "see: SOURCE ahead of CLOSED", () -> full.see(0, 0, 0, 3));
        Check.argument(full, "see: SOURCE ahead of 60", () -> full.see(0, 0, 2 * DAY, 3));
        Check.argument(full, "see: minute ahead of CLOSED", () -> full.see(0, 0, -1, 0));
        Check.argument(full, "see: minute ahead of 60", () -> full.see(0, 0, 2 * DAY + 1, 0));
        Check.state(full, "see: CLOSED and 60", () -> full.see(0, 0, 0, 0));
        Check.index(full, "control: VEHICLE ahead of minute", () -> full.control(8, 0, -1));
        Check.index(full, "control: SEGMENT ahead of CLOSED", () -> full.control(0, 12, 0));
        Check.argument(full, "control: minute ahead of CLOSED", () -> full.control(0, 0, -1));
        Check.index(full, "dispute: VEHICLE ahead of DAY", () -> full.dispute(8, -1));
        GantryHall late = Halls.at(60000);
        late.vehicle(0, 0, 0);
        Check.argument(late, "pass: minutes ahead of 60000", () -> late.pass(3001));
        Check.argument(late, "pass: far too many", () -> late.pass(Integer.MAX_VALUE));
        GantryHall box = Halls.told();
        box.see(0, 0, 0, 0);
        Check.index(box, "correct: VEHICLE ahead of BOX", () -> box.correct(0, 3));
        Halls.until(box, 5 * DAY);
        Check.index(box, "correct: VEHICLE ahead of ERASED", () -> box.correct(0, 3));
    }

    private static void askedFirst() {
        GantryHall hall = Halls.told();
        Check.index(hall, "ofSegment", () -> hall.ofSegment(4, 5));
        Check.index(hall, "ofVehicle", () -> hall.ofVehicle(3, 8));
        Check.index(hall, "ofSighting", () -> hall.ofSighting(0, 5));
        Check.index(hall, "ofOwner", () -> hall.ofOwner(4, 4));
        Check.index(hall, "passages", () -> hall.passages(3, -1));
        Check.index(hall, "ofPassage: VEHICLE", () -> hall.ofPassage(3, 0, 0, 5));
        Check.index(hall, "ofPassage: PASSAGE", () -> hall.ofPassage(0, 0, 0, 5));
        Check.index(hall, "ofPassage: DAY", () -> hall.ofPassage(0, -1, 0, 5));
        Check.index(hall, "journeys", () -> hall.journeys(3, -1));
        Check.index(hall, "toll: VEHICLE", () -> hall.toll(3, 0, -1));
        Check.index(hall, "toll: SEGMENT", () -> hall.toll(0, 4, 72001));
        Check.index(hall, "bill: DAY", () -> hall.bill(3, -1, 50));
        Check.index(hall, "bill: CAP", () -> hall.bill(3, 0, 49));
    }

    private static void wouldBe() {
        GantryHall hall = Halls.at(DAY + 100);
        hall.shut(2, 0, 60000);
        hall.see(0, 0, DAY, 0);
        hall.see(0, 2, DAY + 20, 0);
        hall.see(0, 3, DAY + 20, 2);
        hall.cap(70);
        long before = hall.digest();
        for (int k = 0; k < 2; k++) {
            Check.same("toll", 50, hall.toll(0, 1, 72000));
            Check.same("bill", 80, hall.bill(0, 1, 80));
            Check.same("cheapest", 80, hall.cheapest(0, 0, 2));
            Check.same("bestMinute", DAY + 100, hall.bestMinute(0, 0));
            Check.same("wouldSave", 0, hall.wouldSave(0));
            Check.same("digest", before, hall.digest());
            Check.same("the CAP", 70, hall.many(7));
            Check.same("DUE, by the CAP", 40, hall.ofPassage(0, 1, 1, 4));
        }
    }

    private RefusedEdges() {
    }
}
