/** Edges of the terms 1 to 3: roads, tariffs and vehicles. */
final class RoadEdges {
    private static final int DAY = Halls.DAY;
    private static final int PEAK = DAY + 7 * 60;

    static void test(Sentences terms) {
        numbers(terms);
        minutes(terms);
        segments(terms);
        tariffs(terms);
        prices(terms);
        vehicles(terms);
    }

    private static void numbers(Sentences terms) {
        terms.test("what is divided is rounded down.", RoadEdges::roundedDown);
        terms.test("NONE is -1.", RoadEdges::none);
    }

    private static void minutes(Sentences terms) {
        terms.test("NOW is a minute (0 at first, 60000 at most)", RoadEdges::now);
        terms.test("the DAY of a minute is it / 1440", RoadEdges::day);
        terms.test("its HOUR it / 60 modulo 24", RoadEdges::hour);
        terms.test("TODAY is the DAY of NOW.", RoadEdges::today);
    }

    private static void segments(Sentences terms) {
        terms.test("SEGMENTS: at most 12, numbered from 0", RoadEdges::segmentNumbers);
        terms.test("each from a KNOT (0 to 7) to another one", RoadEdges::knots);
        terms.test("with a LENGTH (1 to 60) and an OWNER (0 to 3).", RoadEdges::lengthAndOwner);
        terms.test("A SEGMENT is SHUT from a minute to another one (both with), as it is told",
                RoadEdges::shutBothWith);
        terms.test("(at most 8 times in all).", RoadEdges::shutTimes);
    }

    private static void tariffs(Sentences terms) {
        terms.test("A TARIFF (at most 16 ever) of an OWNER", RoadEdges::tariffCount);
        terms.test("has a RATE (1 to 30), a STEP (0 to 9), a PEAK (0 to 100)", RoadEdges::tariffParts);
        terms.test("and a first DAY that is later than TODAY as it is told.", RoadEdges::firstDay);
        terms.test("that was told last of those whose first DAY is no later", RoadEdges::toldLast);
        terms.test("without one, all is free there.", RoadEdges::free);
        terms.test("HOLIDAYS: at most 10 DAYS, as they are told.", RoadEdges::holidays);
    }

    private static void prices(Sentences terms) {
        terms.test("LENGTH * (RATE + STEP * CLASS)", RoadEdges::priceByClass);
        terms.test("with the RATE and STEP of its OWNER that are in force on that DAY", RoadEdges::priceOnDay);
        terms.test("that * (10 + EMISSION) / 10", RoadEdges::priceByEmission);
        terms.test("in the HOURS 7, 8, 9, 16, 17, 18 of a DAY", RoadEdges::peakHours);
        terms.test("of a DAY that is no HOLIDAY", RoadEdges::peakOnHoliday);
        terms.test("PEAK of 100 of that (rounded down) more.", RoadEdges::peakRounded);
        terms.test("Its TOLL is that, but 0, if the VEHICLE is EXEMPT with that OWNER", RoadEdges::tollOfExempt);
        terms.test("or the SEGMENT is SHUT then.", RoadEdges::tollOfShut);
    }

    private static void vehicles(Sentences terms) {
        terms.test("VEHICLES: at most 8, numbered from 0", RoadEdges::vehicleNumbers);
        terms.test("each with a CLASS (0 to 2), an EMISSION (0 to 3), an ACCOUNT (0 PREPAID, 1 POST, 2 GUEST)",
                RoadEdges::vehicleParts);
        terms.test("a BALANCE (0 at first), and OWNERS with which it is EXEMPT (none at first).",
                RoadEdges::vehicleAtFirst);
        terms.test("It is BLOCKED, if its BALANCE is below 0 (PREPAID)", RoadEdges::prepaidBlocked);
        terms.test("or below -500 (POST)", RoadEdges::postBlocked);
        terms.test("a GUEST never is.", RoadEdges::guestBlocked);
    }

    /** One SEGMENT of OWNER 0 and one VEHICLE, and that TARIFF from DAY 1 on. */
    private static GantryHall priced(int length, int rank, int emission, int rate, int step, int peak) {
        GantryHall hall = new GantryHall();
        hall.segment(0, 1, length, 0);
        hall.vehicle(rank, emission, 0);
        hall.tariff(0, rate, step, peak, 1);
        return hall;
    }

    private static void roundedDown() {
        // 3 by 13 tenths is 3.9; 99 of 100 of 3 is 2.97 more.
        GantryHall hall = priced(3, 0, 3, 1, 0, 99);
        Check.same("tenths", 3, hall.toll(0, 0, DAY));
        Check.same("of 100", 5, hall.toll(0, 0, PEAK));
        // A twentieth of 39 is 1.95.
        GantryHall paid = Halls.ofLength(39);
        paid.see(0, 0, 1500, 0);
        Halls.until(paid, 3 * DAY);
        Check.same("a twentieth", 1, paid.many(8));
        Check.same("the rest", 38, paid.ofOwner(0, 0));
    }

    private static void none() {
        GantryHall hall = Halls.told();
        hall.see(0, 0, 0, 0);
        Check.same("no way", -1, hall.cheapest(0, 1, 0));
        Check.same("all is well", -1, hall.control(0, 0, 0));
        Halls.until(hall, 5 * DAY);
        Check.same("erased", -1, hall.ofSighting(0, 0));
    }

    private static void now() {
        GantryHall hall = new GantryHall();
        Check.same("at first", 0, hall.many(0));
        Halls.until(hall, 59999);
        Check.state(hall, "60001", () -> hall.pass(2));
        Check.same("to the last minute", 0, hall.pass(1));
        Check.same("the last minute", 60000, hall.many(0));
        Check.state(hall, "one more", () -> hall.pass(1));
        Check.state(hall, "many more", () -> hall.pass(3000));
    }

    private static void day() {
        GantryHall hall = Halls.at(2 * DAY);
        hall.see(0, 0, DAY, 0);
        hall.see(0, 0, 2 * DAY - 1, 0);
        hall.see(0, 0, 2 * DAY, 0);
        Check.same("ahead", 0, hall.passages(0, 0));
        Check.same("its first and its last minute", 2, hall.passages(0, 1));
        Check.same("behind", 1, hall.passages(0, 2));
    }

    private static void hour() {
        GantryHall hall = priced(10, 0, 0, 1, 0, 50);
        for (int day = 1; day <= 49; day += 16) {
            Check.same("the last minute of HOUR 6", 10, hall.toll(0, 0, day * DAY + 419));
            Check.same("the first minute of HOUR 7", 15, hall.toll(0, 0, day * DAY + 420));
            Check.same("the last minute of HOUR 18", 15, hall.toll(0, 0, day * DAY + 1139));
            Check.same("the first minute of HOUR 19", 10, hall.toll(0, 0, day * DAY + 1140));
            Check.same("HOUR 23", 10, hall.toll(0, 0, day * DAY + 1439));
        }
    }

    private static void today() {
        GantryHall hall = Halls.at(DAY - 1);
        Check.same("free up to midnight", 0, hall.ofOwner(0, 1));
        hall.holiday(1);
        hall.pass(1);
        Check.same("then no more", 3, hall.ofOwner(0, 1));
        Check.argument(hall, "TODAY is no later", () -> hall.tariff(0, 1, 0, 0, 1));
        Check.same("the next one is", 4, hall.tariff(0, 1, 0, 0, 2));
    }

    private static void segmentNumbers() {
        GantryHall hall = new GantryHall();
        for (int k = 0; k < 12; k++) {
            Check.same("number", k, hall.segment(k % 8, (k + 1) % 8, 1 + k, k % 4));
        }
        Check.state(hall, "a 13th", () -> hall.segment(0, 1, 1, 0));
        Check.same("the first one stays", 1, hall.ofSegment(0, 2));
        Check.same("the last one stays", 12, hall.ofSegment(11, 2));
        Check.index(hall, "no number 12", () -> hall.ofSegment(12, 0));
    }

    private static void knots() {
        for (int from = 0; from < 8; from++) {
            for (int to = 0; to < 8; to++) {
                oneSegment(from, to);
            }
        }
        Check.indexRange(0, 7, GantryHall::new, (hall, knot) -> hall.segment(knot, knot == 1 ? 2 : 1, 1, 0));
        Check.indexRange(0, 7, GantryHall::new, (hall, knot) -> hall.segment(knot == 1 ? 2 : 1, knot, 1, 0));
    }

    private static void oneSegment(int from, int to) {
        GantryHall hall = new GantryHall();
        if (from == to) {
            Check.argument(hall, "from " + from + " to itself", () -> hall.segment(from, to, 1, 0));
            return;
        }
        hall.segment(from, to, 1, 0);
        hall.vehicle(0, 0, 0);
        Check.same("begins", from, hall.ofSegment(0, 0));
        Check.same("ends", to, hall.ofSegment(0, 1));
        Check.same("a way", 0, hall.cheapest(0, from, to));
        Check.same("no way back", -1, hall.cheapest(0, to, from));
    }

    private static void lengthAndOwner() {
        Check.argumentRange(1, 60, GantryHall::new, (hall, length) -> hall.segment(0, 1, length, 0));
        Check.indexRange(0, 3, GantryHall::new, (hall, owner) -> hall.segment(0, 1, 1, owner));
        GantryHall hall = new GantryHall();
        hall.segment(0, 1, 60, 3);
        Check.same("LENGTH", 60, hall.ofSegment(0, 2));
        Check.same("OWNER", 3, hall.ofSegment(0, 3));
    }

    private static void shutBothWith() {
        GantryHall hall = Halls.at(2000);
        hall.shut(0, 2001, 2003);
        int[] due = {0, 1, 1, 1, 0};
        for (int k = 0; k < 5; k++) {
            Check.same("in minute " + (2000 + k), due[k], hall.ofSegment(0, 4));
            Check.same("TOLL in minute " + (2000 + k), due[k] == 1 ? 0 : 30, hall.toll(0, 0, 2000 + k));
            hall.pass(1);
        }
        Check.same("the other one is open", 50, hall.toll(0, 1, 2002));
        hall.shut(1, 3000, 3000);
        Check.same("ahead of one minute", 50, hall.toll(0, 1, 2999));
        Check.same("in one minute", 0, hall.toll(0, 1, 3000));
        Check.same("behind one minute", 50, hall.toll(0, 1, 3001));
    }

    private static void shutTimes() {
        GantryHall hall = Halls.at(DAY);
        for (int k = 0; k < 8; k++) {
            hall.shut(k % 2, 2000 + 10 * k, 2000 + 10 * k);
        }
        for (int segment = 0; segment < 4; segment++) {
            int which = segment;
            Check.state(hall, "a 9th of " + segment, () -> hall.shut(which, 0, 0));
        }
        for (int k = 0; k < 8; k++) {
            Check.same("each one stays", 0, hall.toll(0, k % 2, 2000 + 10 * k));
            Check.same("of its SEGMENT alone", 50 - 20 * (k % 2), hall.toll(0, 1 - k % 2, 2000 + 10 * k));
        }
    }

    private static void tariffCount() {
        GantryHall hall = new GantryHall();
        for (int k = 0; k < 16; k++) {
            Check.same("how many", k + 1, hall.tariff(k / 4, 1 + k, 0, 0, 1));
        }
        for (int owner = 0; owner < 4; owner++) {
            int whose = owner;
            Check.state(hall, "a 17th", () -> hall.tariff(whose, 1, 0, 0, 2));
        }
        hall.pass(DAY);
        for (int owner = 0; owner < 4; owner++) {
            Check.same("the last one of each", 4 * owner + 4, hall.ofOwner(owner, 1));
        }
        Check.state(hall, "a 17th later", () -> hall.tariff(0, 1, 0, 0, 2));
    }

    private static void tariffParts() {
        Check.argumentRange(1, 30, GantryHall::new, (hall, rate) -> hall.tariff(0, rate, 0, 0, 1));
        Check.argumentRange(0, 9, GantryHall::new, (hall, step) -> hall.tariff(0, 1, step, 0, 1));
        Check.argumentRange(0, 100, GantryHall::new, (hall, peak) -> hall.tariff(0, 1, 0, peak, 1));
        GantryHall hall = priced(60, 2, 3, 30, 9, 100);
        hall.pass(DAY);
        Check.same("RATE", 30, hall.ofOwner(0, 1));
        Check.same("STEP", 9, hall.ofOwner(0, 2));
        Check.same("PEAK", 100, hall.ofOwner(0, 3));
        Check.same("the most of all", 7488, hall.toll(0, 0, PEAK));
        Check.same("the least of all", 1, priced(1, 0, 0, 1, 0, 0).toll(0, 0, PEAK));
    }

    private static void firstDay() {
        GantryHall hall = priced(10, 0, 0, 1, 0, 0);
        Check.argument(hall, "TODAY", () -> hall.tariff(0, 2, 0, 0, 0));
        Check.same("ahead of it", 0, hall.toll(0, 0, DAY - 1));
        Check.same("on it", 10, hall.toll(0, 0, DAY));
        Halls.until(hall, 3 * DAY - 1);
        Check.argument(hall, "TODAY, in its last minute", () -> hall.tariff(0, 2, 0, 0, 2));
        Check.argument(hall, "earlier", () -> hall.tariff(0, 2, 0, 0, 1));
        hall.tariff(0, 2, 0, 0, 3);
        Check.same("up to midnight", 10, hall.toll(0, 0, 3 * DAY - 1));
        Check.same("then", 20, hall.toll(0, 0, 3 * DAY));
    }

    private static void toldLast() {
        GantryHall hall = priced(10, 0, 0, 5, 0, 0);
        hall.tariff(0, 7, 0, 0, 3);
        hall.tariff(1, 9, 0, 0, 1);
        Check.same("not yet that which was told last", 50, hall.toll(0, 0, 3 * DAY - 1));
        Check.same("that which was told last", 70, hall.toll(0, 0, 3 * DAY));
        hall.tariff(0, 2, 0, 0, 2);
        Check.same("ahead of all of them", 50, hall.toll(0, 0, 2 * DAY - 1));
        Check.same("told last, from an earlier DAY", 20, hall.toll(0, 0, 2 * DAY));
        Check.same("and later too", 20, hall.toll(0, 0, 3 * DAY));
        hall.tariff(0, 3, 0, 0, 2);
        Check.same("from the same DAY", 30, hall.toll(0, 0, 2 * DAY));
    }

    private static void free() {
        GantryHall hall = priced(10, 0, 0, 5, 0, 0);
        hall.segment(1, 2, 10, 1);
        Check.same("ahead of the first one", 0, hall.toll(0, 0, DAY - 1));
        Check.same("never one", 0, hall.toll(0, 1, 72000));
        Halls.until(hall, DAY);
        hall.see(0, 1, DAY, 0);
        Check.same("DUE", 0, hall.ofPassage(0, 1, 0, 4));
        Check.same("by the TOLL", 0, hall.ofPassage(0, 1, 0, 3));
    }

    private static void holidays() {
        GantryHall hall = priced(10, 0, 0, 1, 0, 50);
        for (int k = 0; k < 10; k++) {
            Check.same("how many", k + 1, hall.holiday(2 + 2 * k));
        }
        Check.state(hall, "an 11th", () -> hall.holiday(3));
        for (int k = 0; k < 10; k++) {
            Check.same("a HOLIDAY", 10, hall.toll(0, 0, PEAK + (1 + 2 * k) * DAY));
            Check.same("no HOLIDAY", 15, hall.toll(0, 0, PEAK + 2 * k * DAY));
        }
    }

    private static void priceByClass() {
        for (int rank = 0; rank < 3; rank++) {
            Check.same("CLASS " + rank, 7 * (11 + 4 * rank), priced(7, rank, 0, 11, 4, 0).toll(0, 0, DAY));
            Check.same("without a STEP", 77, priced(7, rank, 0, 11, 0, 0).toll(0, 0, DAY));
        }
    }

    private static void priceOnDay() {
        GantryHall hall = priced(10, 1, 0, 5, 3, 0);
        hall.tariff(0, 6, 1, 0, 2);
        hall.segment(1, 2, 10, 1);
        hall.tariff(1, 1, 1, 0, 2);
        Check.same("its last minute", 80, hall.toll(0, 0, 2 * DAY - 1));
        Check.same("the first minute of the next one", 70, hall.toll(0, 0, 2 * DAY));
        Check.same("of the other OWNER", 20, hall.toll(0, 1, 2 * DAY));
    }

    private static void priceByEmission() {
        int[] due = {19, 20, 22, 24};
        for (int emission = 0; emission < 4; emission++) {
            // 19, 20.9, 22.8 and 24.7
            Check.same("EMISSION " + emission, due[emission], priced(19, 0, emission, 1, 0, 0).toll(0, 0, DAY));
        }
        // Not 13 tenths of the LENGTH or of the RATE alone.
        Check.same("of the product", 11, priced(3, 0, 3, 3, 0, 0).toll(0, 0, DAY));
    }

    private static void peakHours() {
        GantryHall hall = priced(10, 0, 0, 1, 0, 100);
        for (int hour = 0; hour < 24; hour++) {
            boolean isPeak = hour == 7 || hour == 8 || hour == 9 || hour == 16 || hour == 17 || hour == 18;
            Check.same("first minute of HOUR " + hour, isPeak ? 20 : 10, hall.toll(0, 0, DAY + hour * 60));
            Check.same("last minute of HOUR " + hour, isPeak ? 20 : 10, hall.toll(0, 0, DAY + hour * 60 + 59));
        }
    }

    private static void peakOnHoliday() {
        GantryHall hall = priced(10, 0, 0, 1, 0, 100);
        hall.holiday(2);
        hall.holiday(49);
        Check.same("the DAY ahead", 20, hall.toll(0, 0, PEAK));
        Check.same("the HOLIDAY", 10, hall.toll(0, 0, PEAK + DAY));
        Check.same("the DAY behind", 20, hall.toll(0, 0, PEAK + 2 * DAY));
        Check.same("a late HOLIDAY", 10, hall.toll(0, 0, PEAK + 48 * DAY));
        Check.same("the DAY ahead of that", 20, hall.toll(0, 0, PEAK + 47 * DAY));
    }

    private static void peakRounded() {
        Check.same("0 of 100", 7, priced(7, 0, 0, 1, 0, 0).toll(0, 0, PEAK));
        Check.same("99 of 100", 199, priced(10, 0, 0, 10, 0, 99).toll(0, 0, PEAK));
        Check.same("100 of 100", 14, priced(7, 0, 0, 1, 0, 100).toll(0, 0, PEAK));
        // 6.93 more, and 0.07 more.
        Check.same("rounded down", 13, priced(7, 0, 0, 1, 0, 99).toll(0, 0, PEAK));
        Check.same("rounded to none", 7, priced(7, 0, 0, 1, 0, 1).toll(0, 0, PEAK));
        // 9 of 9.1 first, and then 4 of 4.5 more: not 13.65.
        Check.same("of what is rounded down", 13, priced(7, 0, 3, 1, 0, 50).toll(0, 0, PEAK));
        Check.same("twice rounded", 24 + 12, priced(19, 0, 3, 1, 0, 50).toll(0, 0, PEAK));
    }

    private static void tollOfExempt() {
        GantryHall hall = Halls.at(DAY);
        hall.exempt(0, 0, true);
        Check.same("with that OWNER", 0, hall.toll(0, 0, DAY));
        Check.same("with no other one", 50, hall.toll(0, 1, DAY));
        Check.same("not another VEHICLE", 30, hall.toll(1, 0, DAY));
        hall.exempt(0, 0, false);
        Check.same("no longer", 30, hall.toll(0, 0, DAY));
    }

    private static void tollOfShut() {
        GantryHall hall = Halls.at(DAY);
        hall.shut(0, 2000, 2100);
        Check.same("ahead", 30, hall.toll(0, 0, 1999));
        Check.same("at first", 0, hall.toll(0, 0, 2000));
        Check.same("at last", 0, hall.toll(0, 0, 2100));
        Check.same("behind", 30, hall.toll(0, 0, 2101));
    }

    private static void vehicleNumbers() {
        GantryHall hall = new GantryHall();
        for (int k = 0; k < 8; k++) {
            Check.same("number", k, hall.vehicle(k % 3, k % 4, k % 3));
        }
        Check.state(hall, "a 9th", () -> hall.vehicle(0, 0, 0));
        Check.same("the last one stays", 3, hall.ofVehicle(7, 1));
        Check.index(hall, "no number 8", () -> hall.ofVehicle(8, 0));
    }

    private static void vehicleParts() {
        Check.argumentRange(0, 2, GantryHall::new, (hall, rank) -> hall.vehicle(rank, 0, 0));
        Check.argumentRange(0, 3, GantryHall::new, (hall, emission) -> hall.vehicle(0, emission, 0));
        Check.argumentRange(0, 2, GantryHall::new, (hall, account) -> hall.vehicle(0, 0, account));
        GantryHall hall = new GantryHall();
        hall.vehicle(2, 3, 1);
        Check.same("CLASS", 2, hall.ofVehicle(0, 0));
        Check.same("EMISSION", 3, hall.ofVehicle(0, 1));
        Check.same("ACCOUNT", 1, hall.ofVehicle(0, 2));
    }

    private static void vehicleAtFirst() {
        for (int account = 0; account < 3; account++) {
            GantryHall hall = new GantryHall();
            hall.vehicle(0, 0, account);
            Check.same("BALANCE", 0, hall.ofVehicle(0, 3));
            Check.same("EXEMPT", 0, hall.ofVehicle(0, 5));
            for (int owner = 0; owner < 4; owner++) {
                Check.same("EXEMPT with " + owner, false, hall.exempt(0, owner, true));
            }
        }
    }

    /** The VEHICLE of that ACCOUNT, when its BALANCE is that one, by a FINE and what it pays. */
    private static GantryHall withBalance(int account, int balance) {
        GantryHall hall = new GantryHall();
        hall.segment(0, 1, 60, 0);
        hall.vehicle(0, 0, account);
        hall.tariff(0, 10, 0, 0, 1);
        hall.pass(DAY);
        hall.control(0, 0, DAY);
        hall.pay(0, balance + 1200);
        Check.same("BALANCE", balance, hall.ofVehicle(0, 3));
        return hall;
    }

    private static void blocked(boolean due, int account, int balance) {
        GantryHall hall = withBalance(account, balance);
        Check.same("at " + balance, due ? 1 : 0, hall.ofVehicle(0, 4));
        Check.same("in the set, at " + balance, due ? 1 : 0, hall.many(14));
    }

    private static void prepaidBlocked() {
        blocked(false, 0, 1);
        blocked(false, 0, 0);
        blocked(true, 0, -1);
        blocked(true, 0, -1199);
    }

    private static void postBlocked() {
        blocked(false, 1, -1);
        blocked(false, 1, -499);
        blocked(false, 1, -500);
        blocked(true, 1, -501);
        blocked(true, 1, -1199);
    }

    private static void guestBlocked() {
        blocked(false, 2, -1);
        blocked(false, 2, -501);
        blocked(false, 2, -1199);
    }

    private RoadEdges() {
    }
}
