/** Each sentence of promises 1 to 9 that names a boundary case, with a test of its own. */
public final class EdgeToldTest {
    private static final int DAY = Halls.DAY;
    private static final String INDEX = "Throws `IndexOutOfBoundsException` if ";
    private static final String ARGUMENT = "Throws `IllegalArgumentException` if ";
    private static final String STATE = "Throws `IllegalStateException` if ";

    public static void main(String[] args) {
        new Sentences("Promise 1")
                .test("Creates a hall without SEGMENTS and VEHICLES.", EdgeToldTest::newHall)
                .end();
        segment();
        shut();
        tariff();
        holiday();
        cap();
        vehicle();
        exempt();
        pay();
        Check.end("EdgeToldTest");
    }

    private static void segment() {
        new Sentences("Promise 2")
                .test("Returns its number.", EdgeToldTest::segmentNumber)
                .test(INDEX + "from or to is not 0 to 7, or owner not 0 to 3", EdgeToldTest::segmentIndex)
                .test(ARGUMENT + "from and to are the same, or length is not 1 to 60", EdgeToldTest::segmentArgument)
                .test(STATE + "there are 12", EdgeToldTest::segmentState)
                .end();
    }

    private static void shut() {
        new Sentences("Promise 3")
                .test("Returns how often something was told to be SHUT.", EdgeToldTest::shutCount)
                .test(INDEX + "there is no such SEGMENT", () -> Such.segments((hall, n) -> hall.shut(n, 0, 0)))
                .test(ARGUMENT + "from is not 0 to 60000, or to not from to 60000", EdgeToldTest::shutArgument)
                .test(STATE + "that was 8 times", EdgeToldTest::shutState)
                .end();
    }

    private static void tariff() {
        new Sentences("Promise 4")
                .test("Returns how many TARIFFS there are.", EdgeToldTest::tariffCount)
                .test(INDEX + "owner is not 0 to 3", () -> Such.owners((hall, n) -> hall.tariff(n, 1, 0, 0, 1)))
                .test(ARGUMENT + "rate is not 1 to 30, step not 0 to 9, peak not 0 to 100", EdgeToldTest::tariffParts)
                .test("or day not later than TODAY, or above 50",
                        () -> dayToTell((hall, n) -> hall.tariff(0, 1, 0, 0, n)))
                .test(STATE + "there are 16", EdgeToldTest::tariffState)
                .end();
    }

    private static void holiday() {
        new Sentences("Promise 5")
                .test("Returns how many there are.", EdgeToldTest::holidayCount)
                .test(ARGUMENT + "day is not later than TODAY, or above 50", () -> dayToTell(GantryHall::holiday))
                .test("or a HOLIDAY", EdgeToldTest::holidayAgain)
                .test(STATE + "there are 10", EdgeToldTest::holidayState)
                .end();
    }

    private static void cap() {
        new Sentences("Promise 6")
                .test("Returns that before.", EdgeToldTest::capBefore)
                .test(ARGUMENT + "cap is not 50 to 999",
                        () -> Check.argumentRange(50, 999, GantryHall::new, GantryHall::cap))
                .end();
    }

    private static void vehicle() {
        new Sentences("Promise 7")
                .test("Returns its number.", EdgeToldTest::vehicleNumber)
                .test(ARGUMENT + "rank is not 0 to 2, emission not 0 to 3, or account not 0 to 2",
                        EdgeToldTest::vehicleArgument)
                .test(STATE + "there are 8", EdgeToldTest::vehicleState)
                .end();
    }

    private static void exempt() {
        new Sentences("Promise 8")
                .test("- `is`: whether it is (for PASSAGES of all minutes)", EdgeToldTest::exemptOfAllMinutes)
                .test("Returns whether it was.", EdgeToldTest::exemptBefore)
                .test(INDEX + "there is no such VEHICLE", () -> Such.vehicles((hall, n) -> hall.exempt(n, 0, true)))
                .test("or owner is not 0 to 3", () -> Such.owners((hall, n) -> hall.exempt(0, n, true)))
                .end();
    }

    private static void pay() {
        new Sentences("Promise 9")
                .test("Returns its BALANCE then.", EdgeToldTest::payBalance)
                .test(INDEX + "there is no such VEHICLE", () -> Such.vehicles((hall, n) -> hall.pay(n, 1)))
                .test(ARGUMENT + "coins is not 1 to 2000",
                        () -> Check.argumentRange(1, 2000, Halls::told, (hall, n) -> hall.pay(0, n)))
                .end();
    }

    private static void newHall() {
        GantryHall hall = new GantryHall();
        Check.same("SEGMENTS", 0, hall.many(1));
        Check.same("VEHICLES", 0, hall.many(2));
        Check.index(hall, "no SEGMENT", () -> hall.ofSegment(0, 0));
        Check.index(hall, "no VEHICLE", () -> hall.ofVehicle(0, 0));
        Check.index(hall, "no SIGHTING", () -> hall.ofSighting(0, 0));
        Halls.full();
        Check.same("nothing of another one", new GantryHall().digest(), hall.digest());
    }

    private static void segmentNumber() {
        GantryHall hall = new GantryHall();
        for (int k = 0; k < 12; k++) {
            Check.argument(hall, "refused", () -> hall.segment(0, 0, 1, 0));
            Check.same("number", k, hall.segment(0, 1, 60 - k, 0));
        }
        for (int k = 0; k < 12; k++) {
            Check.same("LENGTH by number", 60 - k, hall.ofSegment(k, 2));
        }
    }

    private static void segmentIndex() {
        Check.indexRange(0, 7, GantryHall::new, (hall, n) -> hall.segment(n, n == 6 ? 5 : 6, 1, 0));
        Check.indexRange(0, 7, GantryHall::new, (hall, n) -> hall.segment(n == 6 ? 5 : 6, n, 1, 0));
        Check.indexRange(0, 3, GantryHall::new, (hall, n) -> hall.segment(0, 1, 1, n));
    }

    private static void segmentArgument() {
        for (int knot = 0; knot < 8; knot++) {
            int same = knot;
            GantryHall hall = new GantryHall();
            Check.argument(hall, "both " + knot, () -> hall.segment(same, same, 1, 0));
        }
        Check.argumentRange(1, 60, GantryHall::new, (hall, n) -> hall.segment(0, 1, n, 0));
    }

    private static void segmentState() {
        GantryHall hall = Halls.told();
        for (int k = 4; k < 11; k++) {
            hall.segment(0, 1, 1, 0);
        }
        Check.same("the 12th", 11, hall.segment(7, 0, 1, 0));
        Check.state(hall, "the 13th", () -> hall.segment(0, 1, 1, 0));
        Check.same("there are 12", 12, hall.many(1));
    }

    private static void shutCount() {
        GantryHall hall = Halls.told();
        for (int k = 1; k <= 8; k++) {
            int which = k % 4;
            Check.argument(hall, "refused", () -> hall.shut(which, 1, 0));
            // Of any SEGMENT, and of the same time again.
            Check.same("how often", k, hall.shut(which, 0, 10));
        }
    }

    private static void shutArgument() {
        Check.argumentRange(0, 60000, Halls::told, (hall, n) -> hall.shut(0, n, 60000));
        Check.argumentRange(0, 60000, Halls::told, (hall, n) -> hall.shut(0, 0, n));
        Check.argumentRange(1000, 60000, Halls::told, (hall, n) -> hall.shut(0, 1000, n));
        Check.argumentRange(60000, 60000, Halls::told, (hall, n) -> hall.shut(0, 60000, n));
        GantryHall late = Halls.at(60000);
        Check.same("of times that are gone", 1, late.shut(0, 0, 59999));
    }

    private static void shutState() {
        GantryHall hall = Halls.told();
        for (int k = 0; k < 7; k++) {
            hall.shut(0, 0, 0);
        }
        Check.same("the 8th time", 8, hall.shut(3, 0, 0));
        Check.state(hall, "the 9th time, the first SEGMENT", () -> hall.shut(0, 0, 60000));
        Check.state(hall, "the 9th time, another SEGMENT", () -> hall.shut(1, 0, 60000));
        Check.same("it is not SHUT", 0, hall.ofSegment(1, 4));
    }

    private static void tariffCount() {
        GantryHall hall = new GantryHall();
        for (int k = 1; k <= 16; k++) {
            int owner = k % 4;
            Check.argument(hall, "refused", () -> hall.tariff(owner, 1, 0, 0, 0));
            Check.same("how many", k, hall.tariff(owner, 1, 0, 0, 1));
            Check.same("and so many()", k, hall.many(5));
        }
    }

    private static void tariffParts() {
        Check.argumentRange(1, 30, GantryHall::new, (hall, n) -> hall.tariff(0, n, 0, 0, 1));
        Check.argumentRange(0, 9, GantryHall::new, (hall, n) -> hall.tariff(0, 1, n, 0, 1));
        Check.argumentRange(0, 100, GantryHall::new, (hall, n) -> hall.tariff(0, 1, 0, n, 1));
    }

    /** From the DAY behind TODAY to 50. */
    private static void dayToTell(Check.With call) {
        Check.argumentRange(1, 50, GantryHall::new, call);
        Check.argumentRange(1, 50, () -> Halls.at(DAY - 1), call);
        Check.argumentRange(2, 50, () -> Halls.at(DAY), call);
        Check.argumentRange(42, 50, () -> Halls.at(60000), call);
    }

    private static void tariffState() {
        GantryHall hall = new GantryHall();
        for (int k = 0; k < 15; k++) {
            hall.tariff(0, 1, 0, 0, 1);
        }
        Check.same("the 16th", 16, hall.tariff(1, 1, 0, 0, 1));
        Check.state(hall, "the 17th", () -> hall.tariff(0, 2, 0, 0, 1));
        Check.state(hall, "the 17th, of one without any", () -> hall.tariff(2, 2, 0, 0, 1));
        Check.same("there are 16", 16, hall.many(5));
    }

    private static void holidayCount() {
        GantryHall hall = new GantryHall();
        for (int k = 1; k <= 10; k++) {
            Check.argument(hall, "refused", () -> hall.holiday(51));
            Check.same("how many", k, hall.holiday(51 - 5 * k));
            Check.same("and so many()", k, hall.many(6));
        }
    }

    private static void holidayAgain() {
        GantryHall hall = new GantryHall();
        hall.holiday(1);
        hall.holiday(50);
        Check.argument(hall, "the first one", () -> hall.holiday(1));
        Check.argument(hall, "the last one", () -> hall.holiday(50));
        Check.same("beside the first one", 3, hall.holiday(2));
        Check.same("beside the last one", 4, hall.holiday(49));
    }

    private static void holidayState() {
        GantryHall hall = new GantryHall();
        for (int k = 1; k < 10; k++) {
            hall.holiday(k);
        }
        Check.same("the 10th", 10, hall.holiday(10));
        Check.state(hall, "the 11th", () -> hall.holiday(11));
        Halls.until(hall, 20 * DAY);
        Check.state(hall, "the 11th, when all are gone", () -> hall.holiday(21));
        Check.same("there are 10", 10, hall.many(6));
    }

    private static void capBefore() {
        GantryHall hall = new GantryHall();
        Check.same("at first", 300, hall.cap(50));
        Check.argument(hall, "refused", () -> hall.cap(49));
        Check.same("the least", 50, hall.cap(999));
        Check.argument(hall, "refused", () -> hall.cap(1000));
        Check.same("the most", 999, hall.cap(999));
        Check.same("the same again", 999, hall.cap(300));
        Check.same("NOW", 300, hall.many(7));
    }

    private static void vehicleNumber() {
        GantryHall hall = new GantryHall();
        for (int k = 0; k < 8; k++) {
            Check.argument(hall, "refused", () -> hall.vehicle(3, 0, 0));
            Check.same("number", k, hall.vehicle(k % 3, k % 4, 0));
        }
        for (int k = 0; k < 8; k++) {
            Check.same("CLASS by number", k % 3, hall.ofVehicle(k, 0));
            Check.same("EMISSION by number", k % 4, hall.ofVehicle(k, 1));
        }
    }

    private static void vehicleArgument() {
        Check.argumentRange(0, 2, GantryHall::new, (hall, n) -> hall.vehicle(n, 0, 0));
        Check.argumentRange(0, 3, GantryHall::new, (hall, n) -> hall.vehicle(0, n, 0));
        Check.argumentRange(0, 2, GantryHall::new, (hall, n) -> hall.vehicle(0, 0, n));
    }

    private static void vehicleState() {
        GantryHall hall = Halls.told();
        for (int k = 3; k < 7; k++) {
            hall.vehicle(0, 0, 0);
        }
        Check.same("the 8th", 7, hall.vehicle(0, 0, 0));
        Check.state(hall, "the 9th", () -> hall.vehicle(0, 0, 0));
        Check.same("there are 8", 8, hall.many(2));
    }

    private static void exemptOfAllMinutes() {
        GantryHall hall = Halls.at(2 * DAY);
        hall.see(0, 0, DAY, 0);
        hall.see(0, 0, 2 * DAY, 0);
        hall.exempt(0, 0, true);
        Check.same("of an earlier minute", 2, hall.ofPassage(0, 1, 0, 3));
        Check.same("of NOW", 2, hall.ofPassage(0, 2, 0, 3));
        Check.same("of the last minute", 0, hall.toll(0, 0, 72000));
        hall.exempt(0, 0, false);
        Check.same("of an earlier minute, no longer", 0, hall.ofPassage(0, 1, 0, 3));
        Check.same("of NOW, no longer", 30, hall.ofPassage(0, 2, 0, 4));
    }

    private static void exemptBefore() {
        for (int owner = 0; owner < 4; owner++) {
            GantryHall hall = Halls.told();
            Check.same("not at first", false, hall.exempt(1, owner, false));
            Check.same("nor then", false, hall.exempt(1, owner, true));
            Check.same("it was", true, hall.exempt(1, owner, true));
            Check.same("this one alone", 1 << owner, hall.ofVehicle(1, 5));
            Check.same("it was still", true, hall.exempt(1, owner, false));
            Check.same("no longer", false, hall.exempt(1, owner, false));
            Check.same("never the other VEHICLE", false, hall.exempt(0, owner, false));
        }
    }

    private static void payBalance() {
        GantryHall hall = Halls.at(DAY);
        Check.same("the least", 1, hall.pay(0, 1));
        Check.same("the most", 2001, hall.pay(0, 2000));
        Check.argument(hall, "refused", () -> hall.pay(0, 0));
        hall.control(1, 0, DAY);
        Check.same("below 0 still", -1, hall.pay(1, 59));
        Check.same("just 0", 0, hall.pay(1, 1));
        Check.same("of the first one", 2002, hall.pay(0, 1));
    }
}
