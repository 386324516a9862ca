import java.math.BigInteger;
import java.util.ArrayList;
import java.util.List;

/** Each sentence of promises 24 to 29 that names a boundary case, with a test of its own. */
public final class EdgeWouldBeTest {
    private static final int DAY = Halls.DAY;
    private static final String INDEX = "Throws `IndexOutOfBoundsException` if ";
    private static final String ARGUMENT = "Throws `IllegalArgumentException` if ";

    public static void main(String[] args) {
        toll();
        bill();
        cheapest();
        bestMinute();
        wouldSave();
        digest();
        Check.end("EdgeWouldBeTest");
    }

    private static void toll() {
        new Sentences("Promise 24")
                .test("Returns the TOLL.", EdgeWouldBeTest::tollOfMinutes)
                .test(INDEX + "there is no such VEHICLE", () -> Such.vehicles((hall, n) -> hall.toll(n, 0, 0)))
                .test("or SEGMENT", () -> Such.segments((hall, n) -> hall.toll(0, n, 0)))
                .test(ARGUMENT + "minute is not 0 to 72000",
                        () -> Check.argumentRange(0, 72000, Halls::told, (hall, n) -> hall.toll(0, 0, n)))
                .end();
    }

    private static void bill() {
        new Sentences("Promise 25")
                .test("Returns its BILL for that DAY with that CAP.", EdgeWouldBeTest::billWithCap)
                .test(INDEX + "there is no such VEHICLE", () -> Such.vehicles((hall, n) -> hall.bill(n, 0, 50)))
                .test(ARGUMENT + "day is below 0", () -> Such.days((hall, n) -> hall.bill(0, n, 50)))
                .test("or cap not 50 to 999",
                        () -> Check.argumentRange(50, 999, Such::seen, (hall, n) -> hall.bill(0, 0, n)))
                .end();
    }

    private static void cheapest() {
        new Sentences("Promise 26")
                .test("Returns the least sum of TOLLS of NOW", EdgeWouldBeTest::cheapestSum)
                .test("over SEGMENTS that are not SHUT NOW", EdgeWouldBeTest::cheapestShut)
                .test("(0, if they are the same)", EdgeWouldBeTest::cheapestSame)
                .test("NONE, if there is no way.", EdgeWouldBeTest::cheapestNone)
                .test(INDEX + "there is no such VEHICLE", () -> Such.vehicles((hall, n) -> hall.cheapest(n, 0, 0)))
                .test("or from or to is not 0 to 7", EdgeWouldBeTest::cheapestKnots)
                .end();
    }

    private static void bestMinute() {
        new Sentences("Promise 27")
                .test("Returns the first minute", EdgeWouldBeTest::bestFirst)
                .test("from NOW to NOW and 1439", EdgeWouldBeTest::bestTo1439)
                .test("in which its TOLL is least, by all that is told by now.", EdgeWouldBeTest::bestByTold)
                .test(INDEX + "there is no such VEHICLE", () -> Such.vehicles((hall, n) -> hall.bestMinute(n, 0)))
                .test("or SEGMENT", () -> Such.segments((hall, n) -> hall.bestMinute(0, n)))
                .end();
    }

    private static void wouldSave() {
        new Sentences("Promise 28")
                .test("Returns the set of CLASSES (0 to 2; the sum of 2^k for each)", EdgeWouldBeTest::saveSet)
                .test("with which its BILL of TODAY", EdgeWouldBeTest::saveToday)
                .test("with the CAP of NOW, would be less.", EdgeWouldBeTest::saveCap)
                .test(INDEX + "there is no such VEHICLE", () -> Such.vehicles(GantryHall::wouldSave))
                .end();
    }

    private static void digest() {
        new Sentences("Promise 29")
                .test("A number d starts with 4805", EdgeWouldBeTest::digestOfNew)
                .test("which wraps around as a 64-bit integer", EdgeWouldBeTest::digestWraps)
                .test("then for TODAY, and (if TODAY is above 0) for the DAY ahead of it", EdgeWouldBeTest::digestDays)
                .test("SIGHTING by SIGHTING ofSighting() of 0 to 4", EdgeWouldBeTest::digestErased)
                .test("cheapest() from 0 to 1 and from 3 to 5, wouldSave(), and SEGMENT by SEGMENT toll() of NOW.",
                        EdgeWouldBeTest::digestWays)
                .end();
    }

    private static void tollOfMinutes() {
        GantryHall hall = Halls.told();
        hall.tariff(0, 4, 0, 50, 50);
        hall.shut(0, 59999, 60000);
        Check.same("the first minute", 0, hall.toll(0, 0, 0));
        Check.same("the last free minute", 0, hall.toll(0, 0, DAY - 1));
        Check.same("the first one with a TARIFF", 30, hall.toll(0, 0, DAY));
        Check.same("ahead of the SHUT ones", 30, hall.toll(0, 0, 59998));
        Check.same("SHUT in the last minute that may be", 0, hall.toll(0, 0, 60000));
        Check.same("behind all that NOW may be", 30, hall.toll(0, 0, 60001));
        Check.same("the last minute of DAY 49", 30, hall.toll(0, 0, 71999));
        Check.same("the last minute of all", 40, hall.toll(0, 0, 72000));
    }

    private static void billWithCap() {
        GantryHall hall = Halls.at(DAY);
        hall.see(0, 0, DAY, 0);
        hall.see(0, 2, DAY, 0);
        int[] caps = {50, 80, 149, 150, 151, 999};
        int[] due = {50, 80, 149, 150, 150, 150};
        for (int k = 0; k < caps.length; k++) {
            Check.same("with a CAP of " + caps[k], due[k], hall.bill(0, 1, caps[k]));
        }
        Check.same("the CAP stays", 300, hall.many(7));
        Check.same("of the DAY ahead", 0, hall.bill(0, 0, 999));
        Check.same("of the most DAY", 0, hall.bill(0, Integer.MAX_VALUE, 999));
        hall.cap(60);
        Halls.until(hall, 3 * DAY);
        Check.same("of a DAY that is CLOSED", 150, hall.bill(0, 1, 999));
        Check.same("nothing more is taken", -60, hall.ofVehicle(0, 3));
    }

    private static void cheapestSum() {
        GantryHall hall = Halls.told();
        Check.same("free on DAY 0", 0, hall.cheapest(0, 0, 3));
        Halls.until(hall, DAY - 1);
        Check.same("in its last minute", 0, hall.cheapest(0, 0, 3));
        hall.pass(1);
        Check.same("then", 150, hall.cheapest(0, 0, 3));
        hall.segment(0, 3, 50, 0);
        Check.same("as dear", 150, hall.cheapest(0, 0, 3));
        hall.segment(1, 3, 39, 0);
        Check.same("one SEGMENT less, but 27 more", 147, hall.cheapest(0, 0, 3));
        hall.exempt(0, 0, true);
        Check.same("EXEMPT", 0, hall.cheapest(0, 0, 3));
        longWays();
    }

    /** Over all KNOTS, by SEGMENTS that are told in either order. */
    private static void longWays() {
        GantryHall ahead = new GantryHall();
        GantryHall behind = new GantryHall();
        ahead.vehicle(0, 0, 0);
        behind.vehicle(0, 0, 0);
        ahead.tariff(0, 1, 0, 0, 1);
        behind.tariff(0, 1, 0, 0, 1);
        ahead.segment(0, 7, 60, 0);
        behind.segment(0, 7, 60, 0);
        for (int k = 0; k < 7; k++) {
            ahead.segment(k, k + 1, 1 + k, 0);
            behind.segment(6 - k, 7 - k, 7 - k, 0);
        }
        ahead.pass(DAY);
        behind.pass(DAY);
        for (int to = 1; to < 8; to++) {
            Check.same("to " + to, to * (to + 1) / 2, ahead.cheapest(0, 0, to));
            Check.same("to " + to + ", told against the way", to * (to + 1) / 2, behind.cheapest(0, 0, to));
        }
    }

    private static void cheapestShut() {
        GantryHall hall = Halls.at(2000);
        hall.segment(1, 2, 60, 3);
        hall.segment(1, 2, 20, 1);
        hall.shut(4, 0, 60000);
        hall.shut(1, 2001, 2002);
        int[] due = {80, 130, 130, 80};
        for (int k = 0; k < 4; k++) {
            // That on the free SEGMENT, which is SHUT all the time, is no way.
            Check.same("in minute " + (2000 + k), due[k], hall.cheapest(0, 0, 2));
            hall.pass(1);
        }
        hall.shut(0, 2004, 2004);
        Check.same("the only one is SHUT", -1, hall.cheapest(0, 0, 2));
        hall.exempt(0, 0, true);
        Check.same("EXEMPT, but SHUT", -1, hall.cheapest(0, 0, 2));
    }

    private static void cheapestSame() {
        GantryHall hall = Halls.at(DAY);
        hall.shut(0, 0, 60000);
        for (int knot = 0; knot < 8; knot++) {
            Check.same("KNOT " + knot, 0, hall.cheapest(0, knot, knot));
        }
        GantryHall without = new GantryHall();
        without.vehicle(0, 0, 0);
        Check.same("without SEGMENTS", 0, without.cheapest(0, 7, 7));
    }

    private static void cheapestNone() {
        GantryHall hall = Halls.at(DAY);
        Check.same("against the way", -1, hall.cheapest(0, 1, 0));
        Check.same("from there to 4", -1, hall.cheapest(0, 0, 4));
        Check.same("to a KNOT without SEGMENTS", -1, hall.cheapest(0, 0, 7));
        Check.same("from a KNOT without SEGMENTS", -1, hall.cheapest(0, 7, 0));
        Check.same("a way for nothing is one", 0, hall.cheapest(0, 4, 5));
        GantryHall without = new GantryHall();
        without.vehicle(0, 0, 0);
        Check.same("without SEGMENTS", -1, without.cheapest(0, 0, 1));
    }

    private static void cheapestKnots() {
        Such.knots((hall, n) -> hall.cheapest(0, n, 0));
        Such.knots((hall, n) -> hall.cheapest(0, 0, n));
        Such.knots((hall, n) -> hall.cheapest(0, n, n));
    }

    private static void bestFirst() {
        GantryHall hall = Halls.at(DAY);
        Check.same("NOW, of as dear ones", DAY, hall.bestMinute(0, 0));
        hall.shut(0, DAY + 500, DAY + 600);
        Check.same("the first SHUT one", DAY + 500, hall.bestMinute(0, 0));
        hall.shut(0, DAY + 400, DAY + 400);
        Check.same("an earlier SHUT one", DAY + 400, hall.bestMinute(0, 0));
        hall.shut(0, DAY, DAY);
        Check.same("SHUT NOW", DAY, hall.bestMinute(0, 0));
        Halls.until(hall, DAY + 550);
        Check.same("among SHUT ones", DAY + 550, hall.bestMinute(0, 0));
        Check.same("where all is free", DAY + 550, hall.bestMinute(0, 3));
    }

    private static void bestTo1439() {
        GantryHall hall = Halls.at(2000);
        hall.shut(0, 2000 + 1440, 60000);
        Check.same("1440 is too late", 2000, hall.bestMinute(0, 0));
        hall.shut(1, 2000 + 1439, 60000);
        Check.same("1439 is not", 2000 + 1439, hall.bestMinute(0, 1));
        hall.pass(1);
        Check.same("one minute later", 2001 + 1439, hall.bestMinute(0, 0));
        GantryHall late = Halls.told();
        late.tariff(0, 9, 0, 0, 41);
        late.tariff(0, 2, 0, 0, 42);
        Halls.until(late, 60000);
        // 60480 is the first minute of DAY 42, behind all that NOW may be.
        Check.same("behind 60000", 60480, late.bestMinute(0, 0));
        late.shut(1, 0, 60000);
        Check.same("SHUT in the last minute", 60000, late.bestMinute(0, 1));
    }

    private static void bestByTold() {
        GantryHall hall = Halls.told();
        hall.tariff(3, 10, 0, 50, 1);
        Halls.until(hall, DAY + 420);
        Check.same("behind the peak", DAY + 600, hall.bestMinute(0, 3));
        hall.holiday(2);
        hall.tariff(3, 10, 0, 90, 2);
        Check.same("a peak to come, no less", DAY + 600, hall.bestMinute(0, 3));
        hall.tariff(3, 9, 0, 50, 2);
        Check.same("a TARIFF to come", 2 * DAY, hall.bestMinute(0, 3));
        hall.exempt(0, 3, true);
        Check.same("EXEMPT", DAY + 420, hall.bestMinute(0, 3));
        GantryHall holiday = Halls.told();
        holiday.tariff(3, 10, 0, 50, 1);
        holiday.holiday(2);
        Halls.until(holiday, 2 * DAY + 420);
        Check.same("no peak on a HOLIDAY", 2 * DAY + 420, holiday.bestMinute(0, 3));
    }

    /** Three VEHICLES, of each CLASS, seen on DAY 1 for 100, 150 and 200. */
    private static GantryHall classes() {
        GantryHall hall = new GantryHall();
        hall.segment(0, 1, 10, 0);
        for (int rank = 0; rank < 3; rank++) {
            hall.vehicle(rank, 0, 0);
        }
        hall.tariff(0, 10, 5, 0, 1);
        hall.pass(DAY);
        for (int rank = 0; rank < 3; rank++) {
            hall.see(rank, 0, DAY, 0);
        }
        return hall;
    }

    private static void saveSet() {
        GantryHall hall = classes();
        Check.same("CLASS 0", 0, hall.wouldSave(0));
        Check.same("CLASS 1", 1, hall.wouldSave(1));
        Check.same("CLASS 2", 3, hall.wouldSave(2));
        Check.same("CLASS 2 stays", 2, hall.ofVehicle(2, 0));
        Check.same("its BILL stays", 200, hall.bill(2, 1, 999));
        hall.exempt(2, 0, true);
        Check.same("EXEMPT", 0, hall.wouldSave(2));
    }

    private static void saveToday() {
        GantryHall hall = classes();
        Halls.until(hall, 2 * DAY - 1);
        Check.same("in its last minute", 3, hall.wouldSave(2));
        hall.pass(1);
        Check.same("the DAY ahead counts not", 0, hall.wouldSave(2));
        hall.see(2, 0, 2 * DAY, 2);
        Check.same("DOUBTFUL", 0, hall.wouldSave(2));
        hall.see(2, 0, 2 * DAY, 2);
        Check.same("TODAY", 3, hall.wouldSave(2));
        GantryHall level = new GantryHall();
        level.segment(0, 1, 10, 0);
        level.vehicle(2, 0, 0);
        level.tariff(0, 10, 0, 0, 1);
        level.pass(DAY);
        level.see(0, 0, DAY, 0);
        Check.same("without a STEP", 0, level.wouldSave(0));
    }

    private static void saveCap() {
        GantryHall hall = classes();
        int[] caps = {100, 101, 150, 151, 200};
        int[] due = {0, 1, 1, 3, 3};
        for (int k = 0; k < caps.length; k++) {
            hall.cap(caps[k]);
            Check.same("with a CAP of " + caps[k], due[k], hall.wouldSave(2));
        }
    }

    private static BigInteger folded(int... values) {
        BigInteger d = BigInteger.valueOf(4805);
        for (int v : values) {
            d = d.multiply(BigInteger.valueOf(31)).add(BigInteger.valueOf(v));
        }
        return d;
    }

    private static void digestOfNew() {
        int[] values = new int[15 + 16];
        values[7] = 300;
        Check.same("of a new one", folded(values).longValue(), new GantryHall().digest());
    }

    /** The same sum without a bound, so that it is the cut alone that wraps it around. */
    private static void digestWraps() {
        GantryHall hall = new GantryHall();
        hall.vehicle(1, 2, 0);
        hall.control(0, hall.segment(7, 6, 60, 3), 0);
        List<Integer> all = new ArrayList<>();
        for (int what = 0; what <= 14; what++) {
            all.add(hall.many(what));
        }
        for (int v : new int[] {7, 6, 60, 3, 0}) {
            all.add(v);
        }
        for (int k = 0; k < 16; k++) {
            all.add(0);
        }
        for (int v : new int[] {1, 2, 0, 0, 0, 0, 0, 0, 0, 0, -1, -1, 0, 0}) {
            all.add(v);
        }
        BigInteger d = folded(all.stream().mapToInt(v -> v).toArray());
        Check.same("it has more than 64 bits", true, d.bitLength() > 64);
        Check.same("wrapped around, with values below 0", d.longValue(), hall.digest());
    }

    private static void digestDays() {
        GantryHall hall = Such.seen();
        hall.see(0, 2, 0, 0);
        Check.same("on DAY 0, TODAY alone", DigestByAsking.of(hall), hall.digest());
        Halls.until(hall, DAY - 1);
        Check.same("in its last minute", DigestByAsking.of(hall), hall.digest());
        hall.pass(1);
        Check.same("on DAY 1, with DAY 0", DigestByAsking.of(hall), hall.digest());
        hall.see(0, 0, DAY, 0);
        hall.see(0, 1, DAY - 100, 2);
        Check.same("with PASSAGES of both", DigestByAsking.of(hall), hall.digest());
        Halls.until(hall, 2 * DAY);
        Check.same("on DAY 2, with DAY 1", DigestByAsking.of(hall), hall.digest());
        Halls.until(hall, 60000);
        Check.same("in the last minute of all", DigestByAsking.of(hall), hall.digest());
    }

    private static void digestErased() {
        GantryHall hall = Halls.full();
        Check.same("full", DigestByAsking.of(hall), hall.digest());
        Halls.until(hall, 5 * DAY - 1);
        Check.same("not ERASED", DigestByAsking.of(hall), hall.digest());
        hall.pass(1);
        Check.same("ERASED", DigestByAsking.of(hall), hall.digest());
    }

    private static void digestWays() {
        GantryHall hall = Halls.at(DAY);
        Check.same("no way from 3 to 5", DigestByAsking.of(hall), hall.digest());
        hall.segment(3, 5, 7, 0);
        Check.same("both ways", DigestByAsking.of(hall), hall.digest());
        hall.shut(0, DAY, DAY);
        Check.same("no way from 0 to 1", DigestByAsking.of(hall), hall.digest());
        hall.vehicle(2, 3, 1);
        hall.tariff(0, 5, 5, 0, 2);
        Halls.until(hall, 2 * DAY);
        hall.see(3, 0, 2 * DAY, 0);
        Check.same("with savings", DigestByAsking.of(hall), hall.digest());
        Check.same("there are some", 3, hall.wouldSave(3));
    }
}
