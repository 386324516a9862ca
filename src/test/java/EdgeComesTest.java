/** Each sentence of promises 10 to 14 that names a boundary case, with a test of its own. */
public final class EdgeComesTest {
    private static final int DAY = Halls.DAY;
    private static final String INDEX = "Throws `IndexOutOfBoundsException` if ";
    private static final String ARGUMENT = "Throws `IllegalArgumentException` if ";
    private static final String STATE = "Throws `IllegalStateException` if ";

    public static void main(String[] args) {
        see();
        correct();
        control();
        dispute();
        pass();
        Check.end("EdgeComesTest");
    }

    private static void see() {
        new Sentences("Promise 10")
                .test("Returns its number.", EdgeComesTest::seeNumber)
                .test(INDEX + "there is no such VEHICLE", () -> Such.vehicles((hall, n) -> hall.see(n, 0, 0, 0)))
                .test("or SEGMENT", () -> Such.segments((hall, n) -> hall.see(0, n, 0, 0)))
                .test(ARGUMENT + "minute is not 0 to NOW", () -> minuteToNow((hall, n) -> hall.see(0, 0, n, 0)))
                .test("or source not 0 to 2",
                        () -> Check.argumentRange(0, 2, Halls::told, (hall, n) -> hall.see(0, 0, 0, n)))
                .test(STATE + "the DAY of the minute is CLOSED", () -> notClosed((hall, n) -> hall.see(0, 0, n, 0)))
                .test("or there were 60", EdgeComesTest::seeSixty)
                .end();
    }

    private static void correct() {
        new Sentences("Promise 11")
                .test("Returns the VEHICLE before.", EdgeComesTest::correctBefore)
                .test(INDEX + "there is no such SIGHTING", EdgeComesTest::correctSighting)
                .test("or VEHICLE", EdgeComesTest::correctVehicle)
                .test(STATE + "it is by no CAMERA", EdgeComesTest::correctCamera)
                .test("or ERASED", EdgeComesTest::correctErased)
                .end();
    }

    private static void control() {
        new Sentences("Promise 12")
                .test("Returns the FINE; NONE, if all is well.", EdgeComesTest::controlFine)
                .test(INDEX + "there is no such VEHICLE", () -> Such.vehicles((hall, n) -> hall.control(n, 0, 0)))
                .test("or SEGMENT", () -> Such.segments((hall, n) -> hall.control(0, n, 0)))
                .test(ARGUMENT + "minute is not 0 to NOW", () -> minuteToNow((hall, n) -> hall.control(0, 0, n)))
                .test(STATE + "the DAY of the minute is CLOSED", () -> notClosed((hall, n) -> hall.control(0, 0, n)))
                .end();
    }

    private static void dispute() {
        new Sentences("Promise 13")
                .test("Returns how much it gets back.", EdgeComesTest::disputeBack)
                .test(INDEX + "there is no such VEHICLE", EdgeComesTest::disputeVehicle)
                .test(ARGUMENT + "day is below 0", EdgeComesTest::disputeBelow)
                .test("or not CLOSED", EdgeComesTest::disputeNotClosed)
                .test("or 5 or more ahead of TODAY", EdgeComesTest::disputeAhead)
                .end();
    }

    private static void pass() {
        new Sentences("Promise 14")
                .test("Returns all BILLS of the DAYS that were CLOSED", EdgeComesTest::passBills)
                .test("(without the 10 of GUESTS).", EdgeComesTest::passWithoutTen)
                .test(ARGUMENT + "minutes is not 1 to 3000",
                        () -> Check.argumentRange(1, 3000, Halls::told, GantryHall::pass))
                .test(STATE + "NOW would be above 60000", EdgeComesTest::passAbove)
                .end();
    }

    private static void seeNumber() {
        GantryHall hall = Halls.at(DAY);
        for (int k = 0; k < 60; k++) {
            Check.argument(hall, "refused", () -> hall.see(0, 0, DAY + 1, 0));
            Check.same("number", k, hall.see(k % 3, k % 4, DAY - k, k % 3));
        }
        for (int k = 0; k < 60; k++) {
            Check.same("minute by number", DAY - k, hall.ofSighting(k, 2));
        }
    }

    /** From 0 to NOW, as long as DAY 0 is open. */
    private static void minuteToNow(Check.With call) {
        Check.argumentRange(0, 0, Halls::told, call);
        Check.argumentRange(0, 1000, () -> Halls.at(1000), call);
        Check.argumentRange(0, 2 * DAY - 1, () -> Halls.at(2 * DAY - 1), call);
        GantryHall late = Halls.at(60000);
        Check.argument(late, "below 0, behind CLOSED DAYS", () -> call.run(late, -1));
        Check.argument(late, "far below 0", () -> call.run(late, Integer.MIN_VALUE));
        Check.argument(late, "behind the last minute", () -> call.run(late, 60001));
        call.run(late, 60000);
        Check.same("the last minute", 60000, late.many(0));
    }

    private static void notClosed(Check.With call) {
        GantryHall hall = Halls.at(2 * DAY - 1);
        call.run(hall, 0);
        call.run(hall, DAY - 1);
        hall.pass(1);
        Check.state(hall, "its first minute", () -> call.run(hall, 0));
        Check.state(hall, "its last minute", () -> call.run(hall, DAY - 1));
        call.run(hall, DAY);
        Halls.until(hall, 3 * DAY - 1);
        call.run(hall, DAY);
        hall.pass(1);
        Check.state(hall, "the next one", () -> call.run(hall, 2 * DAY - 1));
        call.run(hall, 2 * DAY);
        Halls.until(hall, 60000);
        Check.state(hall, "at last, just CLOSED", () -> call.run(hall, 40 * DAY - 1));
        call.run(hall, 40 * DAY);
    }

    private static void seeSixty() {
        GantryHall hall = Halls.at(DAY);
        for (int k = 0; k < 59; k++) {
            hall.see(0, 0, 0, 0);
        }
        Check.same("the 60th", 59, hall.see(0, 0, DAY, 0));
        Check.state(hall, "the 61st", () -> hall.see(0, 0, DAY, 0));
        Check.state(hall, "of another VEHICLE", () -> hall.see(1, 1, DAY, 1));
        Check.same("there were 60", 60, hall.many(3));
        Halls.until(hall, 6 * DAY);
        Check.same("all are ERASED", 60, hall.many(4));
        Check.state(hall, "when all are ERASED", () -> hall.see(0, 0, 6 * DAY, 0));
    }

    private static GantryHall seenByCamera() {
        GantryHall hall = Halls.told();
        hall.see(0, 0, 0, 2);
        return hall;
    }

    private static void correctBefore() {
        GantryHall hall = seenByCamera();
        Check.same("as it was told", 0, hall.correct(0, 2));
        Check.index(hall, "refused", () -> hall.correct(0, 3));
        Check.same("as it was CORRECTED", 2, hall.correct(0, 2));
        Check.same("to the same one", 2, hall.correct(0, 1));
        Check.same("now", 1, hall.ofSighting(0, 0));
    }

    private static void correctSighting() {
        Check.indexRange(0, 0, EdgeComesTest::seenByCamera, (hall, n) -> hall.correct(n, 0));
        GantryHall hall = Halls.told();
        Check.index(hall, "without any", () -> hall.correct(0, 0));
        for (int k = 0; k < 60; k++) {
            hall.see(0, 0, 0, 2);
        }
        Check.same("the last one", 0, hall.correct(59, 1));
        Check.index(hall, "behind the last one", () -> hall.correct(60, 1));
    }

    private static void correctVehicle() {
        Check.indexRange(0, 2, EdgeComesTest::seenByCamera, (hall, n) -> hall.correct(0, n));
        GantryHall hall = seenByCamera();
        hall.vehicle(0, 0, 0);
        Check.same("one that was told later", 0, hall.correct(0, 3));
        Check.index(hall, "no 5th one", () -> hall.correct(0, 4));
    }

    private static void correctCamera() {
        GantryHall hall = seenByCamera();
        hall.see(0, 0, 0, 0);
        hall.see(0, 0, 0, 1);
        Check.same("by CAMERA", 0, hall.correct(0, 1));
        Check.state(hall, "by BOX", () -> hall.correct(1, 1));
        Check.state(hall, "by RADIO", () -> hall.correct(2, 1));
        Check.state(hall, "by BOX, to the same VEHICLE", () -> hall.correct(1, 0));
    }

    private static void correctErased() {
        GantryHall hall = Halls.at(DAY);
        hall.see(0, 0, DAY - 1, 2);
        hall.see(0, 0, DAY, 2);
        Halls.until(hall, 5 * DAY - 1);
        Check.same("CLOSED, not ERASED", 0, hall.correct(0, 1));
        hall.pass(1);
        Check.state(hall, "ERASED", () -> hall.correct(0, 0));
        Check.same("of the next DAY", 0, hall.correct(1, 1));
        Halls.until(hall, 6 * DAY);
        Check.state(hall, "ERASED then", () -> hall.correct(1, 0));
    }

    private static void controlFine() {
        GantryHall hall = Halls.at(DAY);
        hall.see(0, 0, DAY, 0);
        Check.same("all is well", -1, hall.control(0, 0, DAY));
        Check.same("no FINE", 0, hall.ofVehicle(0, 7));
        Check.same("no CATCH", 0, hall.many(10));
        Check.same("a FINE", 100, hall.control(0, 1, DAY));
        Check.same("a FINE of 0 is one", 0, hall.control(0, 3, DAY));
        Check.same("CATCHES", 2, hall.many(10));
    }

    /** VEHICLE 0 owes 30 for DAY 1, which is just CLOSED. */
    private static GantryHall justClosed() {
        GantryHall hall = Halls.at(DAY);
        hall.see(0, 0, DAY, 0);
        Halls.until(hall, 3 * DAY);
        return hall;
    }

    private static void disputeBack() {
        GantryHall hall = justClosed();
        Check.same("nothing", 0, hall.dispute(0, 1));
        hall.exempt(0, 0, true);
        Check.same("all", 30, hall.dispute(0, 1));
        Check.same("nothing more", 0, hall.dispute(0, 1));
        Check.same("given back", 30, hall.many(12));
        Check.same("BALANCE", 0, hall.ofVehicle(0, 3));
    }

    private static void disputeVehicle() {
        Check.indexRange(0, 2, EdgeComesTest::justClosed, (hall, n) -> hall.dispute(n, 1));
        GantryHall without = new GantryHall();
        Halls.until(without, 3 * DAY);
        Check.index(without, "without VEHICLES", () -> without.dispute(0, 1));
    }

    private static void disputeBelow() {
        GantryHall hall = Halls.at(2 * DAY);
        Check.same("0", 0, hall.dispute(0, 0));
        Check.argument(hall, "-1", () -> hall.dispute(0, -1));
        // So far below that the difference to TODAY is no int.
        Check.argument(hall, "the least int", () -> hall.dispute(0, Integer.MIN_VALUE));
        Check.argument(hall, "beside the least int", () -> hall.dispute(0, Integer.MIN_VALUE + 1));
    }

    private static void disputeNotClosed() {
        GantryHall hall = Halls.told();
        Check.argument(hall, "TODAY is 0", () -> hall.dispute(0, 0));
        Halls.until(hall, 2 * DAY - 1);
        Check.argument(hall, "the last minute ahead", () -> hall.dispute(0, 0));
        hall.pass(1);
        Check.same("CLOSED", 0, hall.dispute(0, 0));
        Check.argument(hall, "the DAY ahead of TODAY", () -> hall.dispute(0, 1));
        Check.argument(hall, "TODAY", () -> hall.dispute(0, 2));
        Check.argument(hall, "a later one", () -> hall.dispute(0, 3));
        Check.argument(hall, "the most", () -> hall.dispute(0, Integer.MAX_VALUE));
        Halls.until(hall, 60000);
        Check.argument(hall, "40, at last", () -> hall.dispute(0, 40));
        Check.same("39, at last", 0, hall.dispute(0, 39));
    }

    private static void disputeAhead() {
        GantryHall hall = Halls.at(5 * DAY - 1);
        Check.same("4 ahead", 0, hall.dispute(0, 0));
        hall.pass(1);
        Check.argument(hall, "5 ahead", () -> hall.dispute(0, 0));
        Check.same("4 ahead then", 0, hall.dispute(0, 1));
        Halls.until(hall, 60000);
        Check.same("4 ahead at last", 0, hall.dispute(0, 37));
        Check.argument(hall, "5 ahead at last", () -> hall.dispute(0, 36));
        Check.argument(hall, "41 ahead", () -> hall.dispute(0, 0));
    }

    private static void passBills() {
        GantryHall hall = Halls.at(2 * DAY);
        hall.see(0, 0, DAY, 0);
        hall.see(1, 1, DAY, 0);
        hall.see(0, 2, 2 * DAY - 1, 0);
        hall.see(0, 0, 2 * DAY, 0);
        Check.same("none is CLOSED", 0, hall.pass(1439));
        Check.same("one is CLOSED", 30 + 50 + 70, hall.pass(1));
        Check.same("it is CLOSED once", 0, hall.pass(1439));
        Check.same("the next one", 30, hall.pass(1));
        GantryHall both = Halls.at(2 * DAY + 1439);
        both.see(0, 0, DAY, 0);
        both.see(1, 1, 2 * DAY, 0);
        both.see(2, 2, 2 * DAY + 1439, 0);
        Check.same("both at once", 30 + 120, both.pass(1441));
    }

    private static void passWithoutTen() {
        GantryHall hall = Halls.at(DAY);
        hall.see(2, 0, DAY, 0);
        Check.same("the BILL alone", 30, Halls.until(hall, 3 * DAY));
        Check.same("the 10 are taken all the same", -40, hall.ofVehicle(2, 3));
    }

    private static void passAbove() {
        GantryHall hall = Halls.at(57000);
        Check.same("to 60000 by the most", 0, hall.pass(3000));
        Check.state(hall, "by 1", () -> hall.pass(1));
        Check.state(hall, "by the most", () -> hall.pass(3000));
        GantryHall far = Halls.at(57001);
        Check.state(far, "one too many", () -> far.pass(3000));
        Check.same("NOW stays", 57001, far.many(0));
        Check.same("just to 60000", 0, far.pass(2999));
        Check.same("NOW", 60000, far.many(0));
    }
}
