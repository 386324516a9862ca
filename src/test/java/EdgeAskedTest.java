/** Each sentence of promises 15 to 23 that names a boundary case, with a test of its own. */
public final class EdgeAskedTest {
    private static final int DAY = Halls.DAY;
    private static final String INDEX = "Throws `IndexOutOfBoundsException` if ";
    private static final String ARGUMENT = "Throws `IllegalArgumentException` if ";

    public static void main(String[] args) {
        ofSegment();
        ofVehicle();
        ofSighting();
        ofOwner();
        passages();
        ofPassage();
        journeys();
        many();
        meanDue();
        Check.end("EdgeAskedTest");
    }

    private static void ofSegment() {
        new Sentences("Promise 15")
                .test("- `what`: 0 the KNOT where it begins, 1 where it ends, 2 LENGTH, 3 OWNER",
                        EdgeAskedTest::segmentParts)
                .test("4 1 if it is SHUT NOW, otherwise 0", EdgeAskedTest::segmentShut)
                .test(INDEX + "there is no such SEGMENT", () -> Such.segments((hall, n) -> hall.ofSegment(n, 4)))
                .test(ARGUMENT + "what is not 0 to 4", () -> Such.whats(4, (hall, n) -> hall.ofSegment(0, n)))
                .end();
    }

    private static void ofVehicle() {
        new Sentences("Promise 16")
                .test("- `what`: 0 its CLASS, 1 EMISSION, 2 ACCOUNT, 3 BALANCE", EdgeAskedTest::vehicleParts)
                .test("4 1 if it is BLOCKED, otherwise 0", EdgeAskedTest::vehicleBlocked)
                .test("5 the set of OWNERS with which it is EXEMPT (the sum of 2^k for each)",
                        EdgeAskedTest::vehicleExempt)
                .test("6 all its BILLS that were taken (without the 10 of GUESTS), less what it got back",
                        EdgeAskedTest::vehicleTaken)
                .test("7 all its FINES", EdgeAskedTest::vehicleFines)
                .test(INDEX + "there is no such VEHICLE", () -> Such.vehicles((hall, n) -> hall.ofVehicle(n, 7)))
                .test(ARGUMENT + "what is not 0 to 7", () -> Such.whats(7, (hall, n) -> hall.ofVehicle(0, n)))
                .end();
    }

    private static void ofSighting() {
        new Sentences("Promise 17")
                .test("- `what`: 0 its VEHICLE, 1 SEGMENT, 2 minute, 3 SOURCE", EdgeAskedTest::sightingParts)
                .test("(0 to 3: NONE, if it is ERASED)", EdgeAskedTest::sightingNone)
                .test("4 1 if it is ERASED, otherwise 0", EdgeAskedTest::sightingErased)
                .test(INDEX + "there is no such SIGHTING", EdgeAskedTest::sightingIndex)
                .test(ARGUMENT + "what is not 0 to 4", EdgeAskedTest::sightingWhat)
                .end();
    }

    private static void ofOwner() {
        new Sentences("Promise 18")
                .test("- `what`: 0 what it has (0 at first)", EdgeAskedTest::ownerHas)
                .test("1 its RATE that is in force TODAY, 2 the STEP, 3 the PEAK", EdgeAskedTest::ownerToday)
                .test("(1 to 3: 0 without a TARIFF)", EdgeAskedTest::ownerWithout)
                .test(INDEX + "owner is not 0 to 3", () -> Such.owners((hall, n) -> hall.ofOwner(n, 1)))
                .test(ARGUMENT + "what is not 0 to 3", () -> Such.whats(3, (hall, n) -> hall.ofOwner(0, n)))
                .end();
    }

    private static void passages() {
        new Sentences("Promise 19")
                .test("Returns how many PASSAGES it has then", EdgeAskedTest::passageCount)
                .test("by the SIGHTINGS that are not ERASED.", EdgeAskedTest::passagesErased)
                .test(INDEX + "there is no such VEHICLE", () -> Such.vehicles((hall, n) -> hall.passages(n, 0)))
                .test(ARGUMENT + "day is below 0", () -> Such.days((hall, n) -> hall.passages(0, n)))
                .end();
    }

    private static void ofPassage() {
        new Sentences("Promise 20")
                .test("- `k`: which of its PASSAGES then, from 0", EdgeAskedTest::passageNumber)
                .test("- `what`: 0 its SEGMENT, 1 minute, 2 how many SIGHTINGS it has", EdgeAskedTest::passageParts)
                .test("(0, if it is INFERRED)", EdgeAskedTest::passageInferred)
                .test("3 the REASON, 4 what is DUE (3 and 4 with the CAP of NOW)", EdgeAskedTest::passageCap)
                .test(INDEX + "there is no such VEHICLE", EdgeAskedTest::passageVehicle)
                .test("or PASSAGE", EdgeAskedTest::passageIndex)
                .test("(also as day is below 0)", EdgeAskedTest::passageDay)
                .test(ARGUMENT + "what is not 0 to 4", () -> Such.whats(4, (hall, n) -> hall.ofPassage(0, 0, 0, n)))
                .end();
    }

    private static void journeys() {
        new Sentences("Promise 21")
                .test("the first one of its PASSAGES that are not DOUBTFUL begins one", EdgeAskedTest::journeyFirst)
                .test("and so does each that begins at another KNOT than that where the one ahead ended",
                        EdgeAskedTest::journeyKnot)
                .test("or more than 120 minutes behind it.", EdgeAskedTest::journeyMinutes)
                .test(INDEX + "there is no such VEHICLE", () -> Such.vehicles((hall, n) -> hall.journeys(n, 0)))
                .test(ARGUMENT + "day is below 0", () -> Such.days((hall, n) -> hall.journeys(0, n)))
                .end();
    }

    private static void many() {
        new Sentences("Promise 22")
                .test("- `what`: 0 NOW, 1 SEGMENTS, 2 VEHICLES", EdgeAskedTest::manyTold)
                .test("3 SIGHTINGS ever, 4 those that are ERASED", EdgeAskedTest::manyErased)
                .test("8 what the HALL has (0 at first), 9 ALARMS ever, 10 CATCHES ever", EdgeAskedTest::manyHall)
                .test("11 all BILLS that were taken (without the 10 of GUESTS), less what was given back, "
                        + "12 what was given back", EdgeAskedTest::manyBills)
                .test("13 the set of VEHICLES on the LIST, 14 the set of those that are BLOCKED",
                        EdgeAskedTest::manySets)
                .test(ARGUMENT + "what is not 0 to 14", () -> Such.whats(14, GantryHall::many))
                .end();
    }

    private static void meanDue() {
        new Sentences("Promise 23")
                .test("of all PASSAGES of all VEHICLES on that DAY that are not DOUBTFUL", EdgeAskedTest::meanOfAll)
                .test("with the CAP of NOW", EdgeAskedTest::meanCap)
                .test("not rounded", EdgeAskedTest::meanNotRounded)
                .test("0 without any.", EdgeAskedTest::meanWithout)
                .test(ARGUMENT + "day is below 0", () -> Such.days(GantryHall::meanDue))
                .end();
    }

    private static void segmentParts() {
        GantryHall hall = new GantryHall();
        hall.segment(7, 0, 60, 3);
        hall.segment(0, 7, 1, 0);
        int[] first = {7, 0, 60, 3};
        int[] second = {0, 7, 1, 0};
        for (int what = 0; what < 4; what++) {
            Check.same("of 0: " + what, first[what], hall.ofSegment(0, what));
            Check.same("of 1: " + what, second[what], hall.ofSegment(1, what));
        }
    }

    private static void segmentShut() {
        GantryHall hall = Halls.told();
        hall.shut(0, 1, 1);
        hall.shut(1, 0, 0);
        Check.same("the minute ahead", 0, hall.ofSegment(0, 4));
        Check.same("the first minute of all", 1, hall.ofSegment(1, 4));
        hall.pass(1);
        Check.same("SHUT NOW", 1, hall.ofSegment(0, 4));
        Check.same("no longer", 0, hall.ofSegment(1, 4));
        hall.pass(1);
        Check.same("the minute behind", 0, hall.ofSegment(0, 4));
        hall.shut(2, 0, 1);
        Check.same("it was", 0, hall.ofSegment(2, 4));
        hall.shut(3, 60000, 60000);
        Halls.until(hall, 60000);
        Check.same("the last minute of all", 1, hall.ofSegment(3, 4));
    }

    private static void vehicleParts() {
        GantryHall hall = new GantryHall();
        hall.vehicle(2, 3, 2);
        hall.vehicle(0, 1, 1);
        hall.pay(1, 2000);
        int[] first = {2, 3, 2, 0};
        int[] second = {0, 1, 1, 2000};
        for (int what = 0; what < 4; what++) {
            Check.same("of 0: " + what, first[what], hall.ofVehicle(0, what));
            Check.same("of 1: " + what, second[what], hall.ofVehicle(1, what));
        }
    }

    private static void vehicleBlocked() {
        GantryHall hall = Halls.at(DAY);
        Check.same("at 0", 0, hall.ofVehicle(0, 4));
        hall.control(0, 0, DAY);
        Check.same("at once", 1, hall.ofVehicle(0, 4));
        hall.pay(0, 59);
        Check.same("at -1", 1, hall.ofVehicle(0, 4));
        hall.pay(0, 1);
        Check.same("at 0 again", 0, hall.ofVehicle(0, 4));
        hall.control(1, 0, DAY);
        Check.same("POST, a little below 0", 0, hall.ofVehicle(1, 4));
    }

    private static void vehicleExempt() {
        for (int set = 0; set < 16; set++) {
            GantryHall hall = Halls.told();
            for (int owner = 0; owner < 4; owner++) {
                hall.exempt(1, owner, true);
            }
            Check.same("all", 15, hall.ofVehicle(1, 5));
            for (int owner = 0; owner < 4; owner++) {
                hall.exempt(1, owner, (set >> owner & 1) == 1);
            }
            Check.same("the set", set, hall.ofVehicle(1, 5));
            Check.same("of the other one", 0, hall.ofVehicle(0, 5));
        }
    }

    private static void vehicleTaken() {
        GantryHall hall = Halls.at(DAY);
        hall.see(2, 0, DAY, 0);
        hall.see(2, 1, DAY, 0);
        Halls.until(hall, 2 * DAY);
        hall.see(2, 2, 2 * DAY, 0);
        Check.same("not yet", 0, hall.ofVehicle(2, 6));
        Halls.until(hall, 3 * DAY);
        Check.same("without the 10", 80, hall.ofVehicle(2, 6));
        Halls.until(hall, 4 * DAY);
        Check.same("all of them", 150, hall.ofVehicle(2, 6));
        hall.control(2, 0, 4 * DAY);
        Check.same("without FINES", 150, hall.ofVehicle(2, 6));
        hall.pay(2, 100);
        Check.same("whatever it pays", 150, hall.ofVehicle(2, 6));
        hall.exempt(2, 0, true);
        hall.dispute(2, 1);
        Check.same("less what it got back", 120, hall.ofVehicle(2, 6));
    }

    private static void vehicleFines() {
        GantryHall hall = Halls.at(DAY);
        Check.same("none", 0, hall.ofVehicle(0, 7));
        hall.control(0, 0, DAY);
        Check.same("one", 60, hall.ofVehicle(0, 7));
        hall.control(0, 1, DAY);
        Check.same("both", 160, hall.ofVehicle(0, 7));
        hall.control(0, 3, DAY);
        Check.same("with one of 0", 160, hall.ofVehicle(0, 7));
        Check.same("of another one", 0, hall.ofVehicle(1, 7));
    }

    private static void sightingParts() {
        GantryHall hall = Halls.at(DAY);
        hall.see(2, 3, DAY, 1);
        hall.see(0, 0, 0, 0);
        int[] first = {2, 3, DAY, 1};
        for (int what = 0; what < 4; what++) {
            Check.same("of 0: " + what, first[what], hall.ofSighting(0, what));
            Check.same("of 1: " + what, 0, hall.ofSighting(1, what));
        }
    }

    private static void sightingNone() {
        GantryHall hall = Halls.told();
        hall.see(1, 2, 0, 2);
        Halls.until(hall, 5 * DAY - 1);
        int[] parts = {1, 2, 0, 2};
        for (int what = 0; what < 4; what++) {
            Check.same("not yet: " + what, parts[what], hall.ofSighting(0, what));
        }
        hall.pass(1);
        for (int what = 0; what < 4; what++) {
            Check.same("ERASED: " + what, -1, hall.ofSighting(0, what));
        }
    }

    private static void sightingErased() {
        GantryHall hall = Halls.at(DAY);
        hall.see(0, 0, DAY - 1, 0);
        hall.see(0, 0, DAY, 0);
        Halls.until(hall, 5 * DAY - 1);
        Check.same("not yet", 0, hall.ofSighting(0, 4));
        hall.pass(1);
        Check.same("ERASED", 1, hall.ofSighting(0, 4));
        Check.same("of the next DAY", 0, hall.ofSighting(1, 4));
        Halls.until(hall, 60000);
        Check.same("ERASED at last", 1, hall.ofSighting(1, 4));
    }

    private static void sightingIndex() {
        Check.indexRange(0, 0, Such::seen, (hall, n) -> hall.ofSighting(n, 4));
        Check.indexRange(0, 59, Halls::full, (hall, n) -> hall.ofSighting(n, 4));
        GantryHall hall = Halls.told();
        Check.index(hall, "without any", () -> hall.ofSighting(0, 4));
    }

    private static void sightingWhat() {
        Such.whats(4, (hall, n) -> hall.ofSighting(0, n));
        GantryHall hall = Such.seen();
        Halls.until(hall, 5 * DAY);
        Check.argument(hall, "of an ERASED one: 5", () -> hall.ofSighting(0, 5));
        Check.argument(hall, "of an ERASED one: -1", () -> hall.ofSighting(0, -1));
    }

    private static void ownerHas() {
        GantryHall hall = Halls.at(DAY);
        hall.see(0, 1, DAY, 0);
        Halls.until(hall, 3 * DAY - 1);
        for (int owner = 0; owner < 4; owner++) {
            Check.same("at first", 0, hall.ofOwner(owner, 0));
        }
        hall.pass(1);
        for (int owner = 0; owner < 4; owner++) {
            Check.same("OWNER " + owner, owner == 1 ? 48 : 0, hall.ofOwner(owner, 0));
        }
    }

    private static void ownerToday() {
        GantryHall hall = new GantryHall();
        hall.tariff(3, 30, 9, 100, 1);
        hall.tariff(3, 1, 0, 0, 2);
        Halls.until(hall, DAY - 1);
        owner(hall, 0, 0, 0);
        hall.pass(1);
        owner(hall, 30, 9, 100);
        Halls.until(hall, 2 * DAY - 1);
        owner(hall, 30, 9, 100);
        hall.pass(1);
        owner(hall, 1, 0, 0);
    }

    private static void owner(GantryHall hall, int rate, int step, int peak) {
        Check.same("RATE", rate, hall.ofOwner(3, 1));
        Check.same("STEP", step, hall.ofOwner(3, 2));
        Check.same("PEAK", peak, hall.ofOwner(3, 3));
    }

    private static void ownerWithout() {
        GantryHall hall = new GantryHall();
        owner(hall, 0, 0, 0);
        hall.tariff(2, 30, 9, 100, 1);
        hall.tariff(3, 30, 9, 100, 3);
        Halls.until(hall, 3 * DAY - 1);
        owner(hall, 0, 0, 0);
        hall.pass(1);
        owner(hall, 30, 9, 100);
    }

    private static void passageCount() {
        GantryHall hall = Halls.at(DAY + 200);
        Check.same("none", 0, hall.passages(0, 1));
        hall.see(0, 0, DAY, 0);
        Check.same("one", 1, hall.passages(0, 1));
        hall.see(0, 2, DAY + 180, 0);
        Check.same("with the INFERRED one", 3, hall.passages(0, 1));
        hall.see(0, 3, DAY, 2);
        Check.same("with the DOUBTFUL one", 4, hall.passages(0, 1));
        Check.same("on the DAY ahead", 0, hall.passages(0, 0));
        Check.same("on a DAY to come", 0, hall.passages(0, 2));
        Check.same("on the most DAY", 0, hall.passages(0, Integer.MAX_VALUE));
        GantryHall most = Halls.at(DAY);
        for (int k = 0; k < 60; k++) {
            most.see(0, 0, 16 * k, 0);
        }
        Check.same("one of each of 60", 60, most.passages(0, 0));
        GantryHall twice = new GantryHall();
        twice.segment(0, 1, 1, 0);
        twice.segment(1, 0, 1, 0);
        twice.vehicle(0, 0, 0);
        twice.pass(DAY);
        for (int k = 0; k < 60; k++) {
            twice.see(0, 0, 16 * k, 0);
        }
        Check.same("with one between each two", 119, twice.passages(0, 0));
    }

    private static void passagesErased() {
        GantryHall hall = Halls.at(DAY);
        hall.see(0, 0, DAY - 1, 0);
        hall.see(0, 0, DAY, 0);
        Halls.until(hall, 5 * DAY - 1);
        Check.same("CLOSED", 1, hall.passages(0, 0));
        hall.pass(1);
        Check.same("ERASED", 0, hall.passages(0, 0));
        Check.same("the next DAY", 1, hall.passages(0, 1));
    }

    private static void passageNumber() {
        Check.indexRange(0, 2, EdgeAskedTest::threePassages, (hall, n) -> hall.ofPassage(0, 1, n, 0));
        for (int k = 0; k < 3; k++) {
            Check.same("SEGMENT of " + k, k, threePassages().ofPassage(0, 1, k, 0));
        }
    }

    /** On SEGMENTS 0 and 2, and an INFERRED one on 1. */
    private static GantryHall threePassages() {
        GantryHall hall = Halls.at(DAY + 200);
        hall.see(0, 0, DAY + 10, 0);
        hall.see(0, 0, DAY + 20, 2);
        hall.see(0, 2, DAY + 100, 0);
        return hall;
    }

    private static void passageParts() {
        GantryHall hall = threePassages();
        int[] first = {0, DAY + 10, 2, 0, 30};
        int[] last = {2, DAY + 100, 1, 0, 70};
        for (int what = 0; what < 5; what++) {
            Check.same("of 0: " + what, first[what], hall.ofPassage(0, 1, 0, what));
            Check.same("of 2: " + what, last[what], hall.ofPassage(0, 1, 2, what));
        }
    }

    private static void passageInferred() {
        GantryHall hall = threePassages();
        Check.same("INFERRED", 0, hall.ofPassage(0, 1, 1, 2));
        Check.same("its minute", DAY + 55, hall.ofPassage(0, 1, 1, 1));
        hall.see(0, 1, DAY + 55, 0);
        Check.same("not INFERRED", 1, hall.ofPassage(0, 1, 1, 2));
    }

    private static void passageCap() {
        GantryHall hall = threePassages();
        hall.cap(80);
        Check.same("just the CAP: REASON", 0, hall.ofPassage(0, 1, 1, 3));
        Check.same("just the CAP: DUE", 50, hall.ofPassage(0, 1, 1, 4));
        hall.cap(79);
        Check.same("one less: REASON", 4, hall.ofPassage(0, 1, 1, 3));
        Check.same("one less: DUE", 49, hall.ofPassage(0, 1, 1, 4));
        Halls.until(hall, 3 * DAY);
        Check.same("CLOSED: DUE", 49, hall.ofPassage(0, 1, 1, 4));
        hall.cap(999);
        Check.same("not by the CAP of the closing: REASON", 0, hall.ofPassage(0, 1, 1, 3));
        Check.same("not by the CAP of the closing: DUE", 50, hall.ofPassage(0, 1, 1, 4));
    }

    private static void passageVehicle() {
        GantryHall hall = Such.seen();
        hall.see(2, 0, 0, 0);
        Check.same("the first one", 0, hall.ofPassage(0, 0, 0, 0));
        Check.same("the last one", 0, hall.ofPassage(2, 0, 0, 0));
        for (int bad : new int[] {-1, 3, Integer.MIN_VALUE, Integer.MAX_VALUE}) {
            Check.index(hall, "VEHICLE " + bad, () -> hall.ofPassage(bad, 0, 0, 0));
        }
    }

    private static void passageIndex() {
        Check.indexRange(0, 0, Such::seen, (hall, n) -> hall.ofPassage(0, 0, n, 0));
        GantryHall hall = Such.seen();
        Check.index(hall, "of a VEHICLE without any", () -> hall.ofPassage(1, 0, 0, 0));
        Check.index(hall, "of a DAY without any", () -> hall.ofPassage(0, 1, 0, 0));
        Check.index(hall, "of the most DAY", () -> hall.ofPassage(0, Integer.MAX_VALUE, 0, 0));
        Halls.until(hall, 5 * DAY);
        Check.index(hall, "ERASED", () -> hall.ofPassage(0, 0, 0, 0));
    }

    private static void passageDay() {
        GantryHall hall = Such.seen();
        Check.same("DAY 0", 0, hall.ofPassage(0, 0, 0, 0));
        Check.index(hall, "DAY -1", () -> hall.ofPassage(0, -1, 0, 0));
        Check.index(hall, "the least int", () -> hall.ofPassage(0, Integer.MIN_VALUE, 0, 0));
    }

    private static void journeyFirst() {
        GantryHall hall = Halls.at(DAY + 200);
        Check.same("none", 0, hall.journeys(0, 1));
        hall.see(0, 1, DAY + 100, 2);
        Check.same("DOUBTFUL", 0, hall.journeys(0, 1));
        hall.see(0, 0, DAY + 90, 0);
        Check.same("one, and a DOUBTFUL one where it ended", 1, hall.journeys(0, 1));
        hall.see(0, 1, DAY + 100, 2);
        Check.same("SURE", 1, hall.journeys(0, 1));
        Check.same("of another DAY", 0, hall.journeys(0, 0));
    }

    private static void journeyKnot() {
        GantryHall hall = Halls.at(DAY + 200);
        hall.see(0, 0, DAY, 0);
        hall.see(0, 1, DAY + 10, 0);
        Check.same("where the one ahead ended", 1, hall.journeys(0, 1));
        hall.see(0, 3, DAY + 20, 0);
        Check.same("at another KNOT", 2, hall.journeys(0, 1));
        hall.see(0, 3, DAY + 40, 0);
        Check.same("on the same SEGMENT again", 3, hall.journeys(0, 1));
        hall.see(0, 0, DAY + 50, 2);
        Check.same("DOUBTFUL", 3, hall.journeys(0, 1));
        GantryHall inferred = Halls.at(DAY + 200);
        inferred.see(0, 0, DAY, 0);
        inferred.see(0, 2, DAY + 10, 0);
        Check.same("with the INFERRED one between", 1, inferred.journeys(0, 1));
        inferred.segment(1, 2, 1, 0);
        Check.same("without it", 2, inferred.journeys(0, 1));
    }

    private static void journeyMinutes() {
        int[] minutes = {119, 120, 121};
        int[] due = {1, 1, 2};
        for (int k = 0; k < 3; k++) {
            GantryHall hall = Halls.at(DAY + 300);
            hall.see(0, 0, DAY, 0);
            hall.see(0, 1, DAY + minutes[k], 0);
            Check.same(minutes[k] + " behind it", due[k], hall.journeys(0, 1));
            hall.see(0, 2, DAY + minutes[k] + 120, 0);
            Check.same("behind the one just ahead", due[k], hall.journeys(0, 1));
        }
        GantryHall inferred = Halls.at(DAY + 300);
        inferred.see(0, 0, DAY, 0);
        inferred.see(0, 2, DAY + 180, 0);
        Check.same("90 and 90", 1, inferred.journeys(0, 1));
    }

    private static void manyTold() {
        GantryHall hall = new GantryHall();
        for (int what = 0; what <= 14; what++) {
            Check.same("at first: " + what, what == 7 ? 300 : 0, hall.many(what));
        }
        GantryHall full = Halls.full();
        full.cap(999);
        int[] due = {0, 12, 8, 60, 0, 16, 10, 999};
        for (int what = 0; what <= 7; what++) {
            Check.same("full: " + what, due[what], full.many(what));
        }
        Halls.until(full, 60000);
        Check.same("NOW", 60000, full.many(0));
    }

    private static void manyErased() {
        GantryHall hall = Halls.at(DAY);
        hall.see(0, 0, 0, 0);
        hall.see(0, 0, DAY - 1, 0);
        hall.see(0, 0, DAY, 0);
        Halls.until(hall, 5 * DAY - 1);
        Check.same("none yet", 0, hall.many(4));
        hall.pass(1);
        Check.same("two", 2, hall.many(4));
        Check.same("three ever", 3, hall.many(3));
        Halls.until(hall, 60000);
        Check.same("all, once", 3, hall.many(4));
    }

    private static void manyHall() {
        GantryHall hall = Halls.at(DAY);
        Check.same("at first", 0, hall.many(8));
        hall.see(2, 1, DAY, 0);
        hall.control(0, 0, DAY);
        Check.same("a FINE", 60, hall.many(8));
        Check.same("a CATCH", 1, hall.many(10));
        hall.see(0, 0, DAY, 1);
        Check.same("no ALARM", 0, hall.many(9));
        Halls.until(hall, 3 * DAY);
        Check.same("twentieths and the 10", 60 + 1 + 2 + 10, hall.many(8));
        hall.see(0, 3, 3 * DAY, 1);
        hall.see(0, 3, 3 * DAY, 1);
        Check.same("ALARMS", 2, hall.many(9));
        Halls.until(hall, 60000);
        Check.same("ALARMS ever", 2, hall.many(9));
        Check.same("CATCHES ever", 1, hall.many(10));
    }

    private static void manyBills() {
        GantryHall hall = Halls.at(DAY);
        hall.see(0, 0, DAY, 0);
        hall.see(2, 1, DAY, 0);
        Halls.until(hall, 3 * DAY - 1);
        Check.same("none yet", 0, hall.many(11));
        hall.pass(1);
        Check.same("without the 10", 80, hall.many(11));
        Check.same("nothing back", 0, hall.many(12));
        hall.exempt(0, 0, true);
        hall.dispute(0, 1);
        Check.same("less what was given back", 50, hall.many(11));
        Check.same("given back", 30, hall.many(12));
        hall.exempt(2, 1, true);
        hall.dispute(2, 1);
        Check.same("less all", 0, hall.many(11));
        Check.same("both", 80, hall.many(12));
    }

    private static void manySets() {
        GantryHall hall = Halls.many();
        Halls.until(hall, DAY);
        Check.same("none is on the LIST", 0, hall.many(13));
        hall.control(0, 0, DAY);
        for (int k = 0; k < 5; k++) {
            hall.control(7, 1, DAY);
        }
        Check.same("at -500", 1, hall.many(14));
        hall.control(7, 0, DAY);
        Check.same("below -500", 129, hall.many(14));
        Check.same("not yet on the LIST", 0, hall.many(13));
        Halls.until(hall, 2 * DAY);
        Check.same("on the LIST", 129, hall.many(13));
        hall.pay(0, 60);
        Check.same("BLOCKED no longer", 128, hall.many(14));
        Check.same("on the LIST still", 129, hall.many(13));
    }

    private static void meanOfAll() {
        GantryHall hall = threePassages();
        Check.same("of one VEHICLE", 50.0, hall.meanDue(1));
        hall.see(2, 3, DAY, 0);
        Check.same("with one for nothing", 37.5, hall.meanDue(1));
        hall.see(1, 0, DAY, 2);
        Check.same("without the DOUBTFUL one", 37.5, hall.meanDue(1));
        hall.exempt(0, 2, true);
        Check.same("with the EXEMPT one", 20.0, hall.meanDue(1));
        hall.shut(1, 0, 60000);
        Check.same("with the SHUT one", 7.5, hall.meanDue(1));
        hall.pass(2 * DAY);
        hall.see(2, 0, 3 * DAY, 0);
        Check.same("without those of another DAY", 7.5, hall.meanDue(1));
    }

    private static void meanCap() {
        GantryHall hall = threePassages();
        hall.cap(60);
        Check.same("CAPPED", 20.0, hall.meanDue(1));
        hall.see(1, 2, DAY, 0);
        Check.same("each BILL by itself", 30.0, hall.meanDue(1));
        Halls.until(hall, 3 * DAY);
        hall.cap(999);
        Check.same("not by the CAP of the closing", 55.0, hall.meanDue(1));
    }

    private static void meanNotRounded() {
        GantryHall hall = Halls.at(DAY);
        hall.see(0, 0, DAY, 0);
        hall.see(0, 3, DAY, 0);
        hall.see(1, 3, DAY, 0);
        hall.see(1, 1, DAY, 0);
        hall.see(2, 1, DAY, 0);
        hall.see(2, 2, DAY, 0);
        hall.see(2, 3, DAY, 0);
        Check.same("200 by 7", 200.0 / 7.0, hall.meanDue(1));
        hall.exempt(2, 2, true);
        Check.same("130 by 7", 130.0 / 7.0, hall.meanDue(1));
    }

    private static void meanWithout() {
        GantryHall hall = Halls.at(DAY);
        Check.same("without any", 0.0, hall.meanDue(1));
        hall.see(0, 2, DAY, 2);
        Check.same("with a DOUBTFUL one", 0.0, hall.meanDue(1));
        Check.same("without VEHICLES", 0.0, new GantryHall().meanDue(0));
        Check.same("on the most DAY", 0.0, hall.meanDue(Integer.MAX_VALUE));
        GantryHall erased = Such.seen();
        Halls.until(erased, 5 * DAY);
        Check.same("ERASED", 0.0, erased.meanDue(0));
    }
}
