/** Edges of term 5, but for DISPUTES: what is due, closing, erasing, the list, controls. */
final class DueEdges {
    private static final int DAY = Halls.DAY;
    private static final int BOX = 0;
    private static final int RADIO = 1;
    private static final int CAMERA = 2;
    private static final int REASON = 3;
    private static final int DUE = 4;
    private static final int BALANCE = 3;

    static void test(Sentences terms) {
        reasons(terms);
        closing(terms);
        list(terms);
        control(terms);
    }

    private static void reasons(Sentences terms) {
        terms.test("with the first REASON that applies", DueEdges::firstReason);
        terms.test("1 DOUBTFUL: 0.", DueEdges::doubtful);
        terms.test("2 EXEMPT: 0.", DueEdges::exempt);
        terms.test("3 SHUT: 0.", DueEdges::shut);
        terms.test("4 CAPPED: the TOLL would bring all that is DUE above the CAP", DueEdges::above);
        terms.test("(50 to 999; 300 at first)", DueEdges::caps);
        terms.test("what is left of that. Otherwise (0) the TOLL.", DueEdges::left);
        terms.test("The BILL is all that is DUE.", DueEdges::billIsAll);
        terms.test("Whatever is asked is by what is told and not ERASED now.", DueEdges::byNow);
    }

    private static void closing(Sentences terms) {
        terms.test("A DAY is CLOSED as the second DAY behind it begins", DueEdges::secondDay);
        terms.test("with the CAP of then, its BILL is taken from its BALANCE", DueEdges::capOfThen);
        terms.test("a GUEST with a BILL above 0 pays 10 more to the HALL.", DueEdges::guest);
        terms.test("Each OWNER gets what is DUE on its SEGMENTS (all of a BILL together)", DueEdges::together);
        terms.test("less a twentieth of that, which the HALL gets.", DueEdges::twentieth);
        terms.test("SIGHTINGS of a DAY are ERASED as the fifth DAY behind it begins.", DueEdges::fifthDay);
    }

    private static void list(Sentences terms) {
        terms.test("THE LIST: the VEHICLES that are BLOCKED as a DAY begins", DueEdges::asDayBegins);
        terms.test("(behind what is CLOSED).", DueEdges::behindClosing);
        terms.test("A SIGHTING by RADIO of one that is on the LIST as it is told is an ALARM.", DueEdges::alarm);
    }

    private static void control(Sentences terms) {
        terms.test("that began in that minute, or up to 15 ahead of it", DueEdges::upTo15Ahead);
        terms.test("if there is a SURE PASSAGE of it there (no INFERRED one)", DueEdges::sureThere);
        terms.test("(also on the DAY ahead, over midnight), all is well.", DueEdges::overMidnight);
        terms.test("Otherwise it is a CATCH: it pays a FINE of twice the TOLL to the HALL at once.", DueEdges::fine);
    }

    private static void firstReason() {
        GantryHall hall = Halls.at(DAY);
        hall.exempt(0, 0, true);
        hall.shut(0, 0, 60000);
        hall.see(0, 0, DAY, CAMERA);
        Check.same("DOUBTFUL ahead of EXEMPT and SHUT", 1, hall.ofPassage(0, 1, 0, REASON));
        hall.see(0, 0, DAY, BOX);
        Check.same("EXEMPT ahead of SHUT", 2, hall.ofPassage(0, 1, 0, REASON));
        hall.exempt(0, 0, false);
        Check.same("SHUT ahead of the TOLL", 3, hall.ofPassage(0, 1, 0, REASON));
        hall.cap(50);
        hall.see(0, 1, DAY, BOX);
        hall.see(0, 2, DAY, BOX);
        Check.same("the TOLL brings it just to the CAP", 0, hall.ofPassage(0, 1, 1, REASON));
        Check.same("CAPPED", 4, hall.ofPassage(0, 1, 2, REASON));
        hall.shut(2, DAY, DAY);
        Check.same("SHUT ahead of CAPPED", 3, hall.ofPassage(0, 1, 2, REASON));
        hall.exempt(0, 2, true);
        Check.same("EXEMPT ahead of CAPPED", 2, hall.ofPassage(0, 1, 2, REASON));
    }

    private static void doubtful() {
        GantryHall hall = Halls.at(DAY);
        hall.see(0, 2, DAY, CAMERA);
        Check.same("REASON", 1, hall.ofPassage(0, 1, 0, REASON));
        Check.same("DUE", 0, hall.ofPassage(0, 1, 0, DUE));
        Check.same("the BILL", 0, hall.bill(0, 1, 999));
        hall.see(0, 2, DAY, CAMERA);
        Check.same("two", 70, hall.ofPassage(0, 1, 0, DUE));
    }

    private static void exempt() {
        GantryHall hall = Halls.at(DAY);
        hall.see(0, 2, DAY, BOX);
        hall.exempt(0, 2, true);
        Check.same("REASON", 2, hall.ofPassage(0, 1, 0, REASON));
        Check.same("DUE", 0, hall.ofPassage(0, 1, 0, DUE));
        hall.exempt(0, 2, false);
        hall.exempt(0, 1, true);
        Check.same("with another OWNER: REASON", 0, hall.ofPassage(0, 1, 0, REASON));
        Check.same("with another OWNER: DUE", 70, hall.ofPassage(0, 1, 0, DUE));
        // With no TARIFF it is EXEMPT all the same.
        hall.see(1, 3, DAY, BOX);
        hall.exempt(1, 3, true);
        Check.same("where all is free", 2, hall.ofPassage(1, 1, 0, REASON));
    }

    private static void shut() {
        GantryHall hall = Halls.at(DAY + 500);
        for (int minute = 99; minute <= 163; minute += 16) {
            hall.see(0, 2, DAY + minute, BOX);
        }
        hall.cap(999);
        hall.shut(2, DAY + 115, DAY + 147);
        for (int k = 0; k < 5; k++) {
            boolean isShut = k >= 1 && k <= 3;
            Check.same("REASON of " + k, isShut ? 3 : 0, hall.ofPassage(0, 1, k, REASON));
            Check.same("DUE of " + k, isShut ? 0 : 70, hall.ofPassage(0, 1, k, DUE));
        }
        // By the minute of the PASSAGE, not by its later SIGHTINGS.
        hall.see(1, 2, DAY + 114, BOX);
        hall.see(1, 2, DAY + 116, BOX);
        Check.same("begun ahead", 0, hall.ofPassage(1, 1, 0, REASON));
    }

    /** Three PASSAGES of 30, 50 and 70, with that CAP. */
    private static GantryHall capped(int cap) {
        GantryHall hall = Halls.at(DAY);
        for (int segment = 0; segment < 3; segment++) {
            hall.see(0, segment, DAY, BOX);
        }
        hall.cap(cap);
        return hall;
    }

    private static void above() {
        Check.same("just the CAP", 0, capped(150).ofPassage(0, 1, 2, REASON));
        Check.same("one above", 4, capped(149).ofPassage(0, 1, 2, REASON));
        Check.same("just the CAP, earlier", 0, capped(80).ofPassage(0, 1, 1, REASON));
        Check.same("one above, earlier", 4, capped(79).ofPassage(0, 1, 1, REASON));
        GantryHall hall = capped(80);
        hall.see(0, 3, DAY, BOX);
        Check.same("a TOLL of 0 never does", 0, hall.ofPassage(0, 1, 3, REASON));
        hall.exempt(0, 1, true);
        Check.same("what is not DUE counts not", 4, hall.ofPassage(0, 1, 2, REASON));
        hall.exempt(0, 0, true);
        Check.same("only what is DUE", 0, hall.ofPassage(0, 1, 2, REASON));
    }

    private static void caps() {
        Check.argumentRange(50, 999, GantryHall::new, GantryHall::cap);
        Check.argumentRange(50, 999, Halls::told, (hall, cap) -> hall.bill(0, 0, cap));
        Check.same("at first", 300, new GantryHall().many(7));
        GantryHall hall = Halls.at(DAY + 200);
        for (int minute = DAY; minute < DAY + 80; minute += 16) {
            hall.see(0, 2, minute, BOX);
        }
        Check.same("REASON by the CAP at first", 4, hall.ofPassage(0, 1, 4, REASON));
        Check.same("DUE by the CAP at first", 20, hall.ofPassage(0, 1, 4, DUE));
        Check.same("with the least CAP", 50, hall.bill(0, 1, 50));
        Check.same("with the most CAP", 350, hall.bill(0, 1, 999));
    }

    private static void left() {
        int[] dues = {70, 69, 1, 0};
        int[] caps = {150, 149, 81, 80};
        for (int k = 0; k < 4; k++) {
            GantryHall hall = capped(caps[k]);
            Check.same("with a CAP of " + caps[k], dues[k], hall.ofPassage(0, 1, 2, DUE));
            Check.same("all of it", caps[k], hall.bill(0, 1, caps[k]));
        }
        GantryHall hall = capped(50);
        Check.same("the TOLL", 30, hall.ofPassage(0, 1, 0, DUE));
        Check.same("what is left", 20, hall.ofPassage(0, 1, 1, DUE));
        Check.same("nothing is left", 0, hall.ofPassage(0, 1, 2, DUE));
    }

    private static void billIsAll() {
        GantryHall hall = Halls.at(DAY + 100);
        Check.same("of none", 0, hall.bill(0, 1, 999));
        hall.see(0, 0, DAY, BOX);
        hall.see(0, 2, DAY + 20, BOX);
        hall.see(0, 1, DAY + 40, CAMERA);
        hall.see(1, 0, DAY, BOX);
        Check.same("with the INFERRED one, without the DOUBTFUL one", 150, hall.bill(0, 1, 999));
        Check.same("of another DAY", 0, hall.bill(0, 2, 999));
    }

    private static void byNow() {
        GantryHall hall = Halls.at(DAY);
        hall.see(0, 0, DAY, BOX);
        Check.same("at first", 30, hall.bill(0, 1, 999));
        hall.exempt(0, 0, true);
        Check.same("told later", 0, hall.bill(0, 1, 999));
        hall.exempt(0, 0, false);
        Halls.until(hall, 6 * DAY - 1);
        Check.same("CLOSED, not ERASED: the BILL", 30, hall.bill(0, 1, 999));
        Check.same("CLOSED, not ERASED: the mean", 30.0, hall.meanDue(1));
        hall.pass(1);
        Check.same("ERASED: the BILL", 0, hall.bill(0, 1, 999));
        Check.same("ERASED: the mean", 0.0, hall.meanDue(1));
        Check.same("ERASED: PASSAGES", 0, hall.passages(0, 1));
        Check.same("ERASED: JOURNEYS", 0, hall.journeys(0, 1));
        Check.index(hall, "ERASED: no PASSAGE", () -> hall.ofPassage(0, 1, 0, 0));
    }

    private static void secondDay() {
        GantryHall hall = Halls.at(DAY);
        hall.see(0, 0, DAY, BOX);
        Check.same("the next DAY", 0, Halls.until(hall, 2 * DAY));
        Check.same("its last minute", 0, Halls.until(hall, 3 * DAY - 1));
        Check.same("nothing is taken", 0, hall.ofVehicle(0, BALANCE));
        Check.same("late, but still", 1, hall.see(0, 1, DAY, BOX));
        Check.same("as the second DAY begins", 80, hall.pass(1));
        Check.same("taken", -80, hall.ofVehicle(0, BALANCE));
        Check.same("once", 0, Halls.until(hall, 6 * DAY));
        // Over two midnights in one call.
        GantryHall far = Halls.at(DAY + 1439);
        far.see(0, 0, DAY, BOX);
        far.pass(1);
        far.see(0, 1, 2 * DAY, BOX);
        Check.same("two DAYS at once", 80, far.pass(2880));
        Check.same("both are taken", -80, far.ofVehicle(0, BALANCE));
        firstDay();
    }

    private static void firstDay() {
        GantryHall hall = Halls.at(DAY - 1);
        Check.same("over DAY 0 to the third midnight", 0, hall.pass(2881));
        Check.same("NOW", 3 * DAY, hall.many(0));
        Check.state(hall, "CLOSED", () -> hall.see(0, 0, 2 * DAY - 1, BOX));
        Check.same("open", 0, hall.see(0, 0, 2 * DAY, BOX));
    }

    private static void capOfThen() {
        GantryHall hall = Halls.at(2 * DAY);
        for (int day = 1; day <= 2; day++) {
            for (int segment = 0; segment < 3; segment++) {
                hall.see(0, segment, day * DAY, BOX);
            }
        }
        hall.cap(70);
        Halls.until(hall, 3 * DAY - 1);
        hall.cap(60);
        Check.same("the CAP of the last minute ahead", 60, hall.pass(1));
        Check.same("from its BALANCE", -60, hall.ofVehicle(0, BALANCE));
        hall.cap(90);
        Check.same("not again", -60, hall.ofVehicle(0, BALANCE));
        Check.same("another CAP for the next DAY", 90, Halls.until(hall, 4 * DAY));
        Check.same("with both", -150, hall.ofVehicle(0, BALANCE));
    }

    private static void guest() {
        GantryHall hall = Halls.ofLength(1);
        for (int vehicle = 0; vehicle < 3; vehicle++) {
            hall.see(vehicle, 0, 1500, BOX);
        }
        Check.same("without the 10", 3, Halls.until(hall, 3 * DAY));
        int[] due = {-1, -1, -11};
        for (int vehicle = 0; vehicle < 3; vehicle++) {
            Check.same("ACCOUNT " + vehicle, due[vehicle], hall.ofVehicle(vehicle, BALANCE));
        }
        Check.same("to the HALL", 10, hall.many(8));
        Check.same("not to the OWNER", 3, hall.ofOwner(0, 0));
        GantryHall none = Halls.ofLength(1);
        none.see(2, 0, 1500, CAMERA);
        Halls.until(none, 3 * DAY);
        Check.same("a BILL of 0", 0, none.ofVehicle(2, BALANCE));
        Check.same("nothing to the HALL", 0, none.many(8));
    }

    private static void together() {
        GantryHall hall = Halls.ofLength(19);
        hall.segment(2, 3, 1, 0);
        hall.see(0, 0, 1500, BOX);
        hall.see(1, 0, 1500, BOX);
        Halls.until(hall, 3 * DAY);
        Check.same("two BILLS of 19", 38, hall.ofOwner(0, 0));
        Check.same("no twentieth of either", 0, hall.many(8));
        GantryHall one = Halls.ofLength(19);
        one.segment(2, 3, 1, 0);
        one.see(0, 0, 1500, BOX);
        one.see(0, 1, 1500, BOX);
        Halls.until(one, 3 * DAY);
        Check.same("one BILL of 19 and 1", 19, one.ofOwner(0, 0));
        Check.same("a twentieth of both", 1, one.many(8));
        GantryHall owners = Halls.ofLength(19);
        owners.segment(2, 3, 1, 1);
        owners.tariff(1, 1, 0, 0, 2);
        Halls.until(owners, 2 * DAY);
        owners.see(0, 0, 2 * DAY, BOX);
        owners.see(0, 1, 2 * DAY, BOX);
        Halls.until(owners, 4 * DAY);
        Check.same("each OWNER apart", 0, owners.many(8));
        Check.same("OWNER 0", 19, owners.ofOwner(0, 0));
        Check.same("OWNER 1", 1, owners.ofOwner(1, 0));
        eachOwner();
    }

    private static void eachOwner() {
        GantryHall hall = Halls.told();
        hall.tariff(3, 9, 0, 0, 1);
        Halls.until(hall, DAY);
        for (int segment = 0; segment < 4; segment++) {
            hall.see(1, segment, DAY, BOX);
        }
        Halls.until(hall, 3 * DAY);
        int[] due = {29, 48, 67, 86};
        for (int owner = 0; owner < 4; owner++) {
            Check.same("OWNER " + owner + " of four", due[owner], hall.ofOwner(owner, 0));
        }
        Check.same("the HALL", 10, hall.many(8));
    }

    private static void twentieth() {
        int[] lengths = {1, 19, 20, 39, 40, 59, 60};
        int[] hallGets = {0, 0, 1, 1, 2, 2, 3};
        for (int k = 0; k < lengths.length; k++) {
            GantryHall hall = Halls.ofLength(lengths[k]);
            hall.see(0, 0, 1500, BOX);
            Halls.until(hall, 3 * DAY);
            Check.same("of " + lengths[k], hallGets[k], hall.many(8));
            Check.same("the rest of " + lengths[k], lengths[k] - hallGets[k], hall.ofOwner(0, 0));
        }
    }

    private static void fifthDay() {
        GantryHall hall = Halls.at(2 * DAY);
        hall.see(0, 0, DAY, CAMERA);
        hall.see(0, 0, 2 * DAY - 1, CAMERA);
        hall.see(0, 0, 2 * DAY, CAMERA);
        Halls.until(hall, 6 * DAY - 1);
        Check.same("its last minute ahead", 0, hall.many(4));
        Check.same("can be CORRECTED still", 0, hall.correct(0, 1));
        hall.pass(1);
        Check.same("as the fifth DAY begins", 2, hall.many(4));
        Check.same("the first minute of the DAY", 1, hall.ofSighting(0, 4));
        Check.same("the last minute of the DAY", 1, hall.ofSighting(1, 4));
        Check.same("the next DAY", 0, hall.ofSighting(2, 4));
        Check.state(hall, "ERASED", () -> hall.correct(0, 0));
        // Over two midnights in one call.
        GantryHall far = Halls.at(2 * DAY);
        far.see(0, 0, DAY, BOX);
        far.see(0, 0, 2 * DAY, BOX);
        Halls.until(far, 6 * DAY - 1);
        far.pass(1441);
        Check.same("both", 2, far.many(4));
    }

    private static void asDayBegins() {
        GantryHall hall = Halls.at(2 * DAY);
        hall.control(0, 0, 2 * DAY);
        hall.see(0, 0, 2 * DAY, RADIO);
        Check.same("BLOCKED in the DAY", 1, hall.many(14));
        Check.same("not yet on the LIST", 0, hall.many(13));
        Halls.until(hall, 3 * DAY - 1);
        Check.same("nor in its last minute", 0, hall.many(13));
        hall.pass(1);
        Check.same("as the next one begins", 1, hall.many(13));
        hall.pay(0, 2000);
        Halls.until(hall, 4 * DAY - 1);
        Check.same("all the DAY", 1, hall.many(13));
        hall.pass(1);
        Check.same("no longer BLOCKED as a DAY begins", 0, hall.many(13));
        GantryHall first = Halls.at(DAY - 1);
        first.tariff(3, 1, 0, 0, 1);
        Check.same("none on DAY 0", 0, first.many(13));
    }

    private static void behindClosing() {
        GantryHall hall = Halls.at(DAY);
        hall.see(0, 0, DAY, BOX);
        hall.see(1, 0, DAY, BOX);
        hall.pay(1, 30);
        hall.see(2, 0, DAY, BOX);
        Halls.until(hall, 3 * DAY - 1);
        Check.same("not BLOCKED ahead", 0, hall.many(14));
        hall.pass(1);
        Check.same("by the BILL that is taken then", 1, hall.many(13));
        // Over three midnights: the BILL is taken at the second one, and at the third the LIST is made anew.
        GantryHall far = Halls.at(DAY + 1439);
        far.see(0, 0, DAY, BOX);
        far.pass(2881);
        Check.same("at the last midnight", 1, far.many(13));
    }

    private static void alarm() {
        GantryHall hall = Halls.at(2 * DAY);
        hall.control(0, 0, 2 * DAY);
        hall.see(0, 0, 2 * DAY, RADIO);
        Check.same("BLOCKED, not on the LIST", 0, hall.many(9));
        Halls.until(hall, 3 * DAY);
        hall.see(0, 0, 3 * DAY, BOX);
        hall.see(0, 0, 3 * DAY, CAMERA);
        Check.same("on the LIST, not by RADIO", 0, hall.many(9));
        hall.see(1, 0, 3 * DAY, RADIO);
        Check.same("by RADIO, not on the LIST", 0, hall.many(9));
        hall.see(0, 0, 2 * DAY, RADIO);
        Check.same("of a minute in which it was not on the LIST", 1, hall.many(9));
        hall.pay(0, 2000);
        hall.see(0, 0, 3 * DAY, RADIO);
        Check.same("on the LIST, BLOCKED no longer", 2, hall.many(9));
        Halls.until(hall, 4 * DAY);
        hall.see(0, 0, 3 * DAY, RADIO);
        Check.same("no longer on the LIST as it is told", 2, hall.many(9));
        corrected();
    }

    private static void corrected() {
        GantryHall hall = Halls.at(DAY);
        hall.control(0, 0, DAY);
        Halls.until(hall, 2 * DAY);
        hall.see(1, 0, 2 * DAY, CAMERA);
        hall.correct(0, 0);
        Check.same("CORRECTED is not told by RADIO", 0, hall.many(9));
    }

    private static void upTo15Ahead() {
        int[] minutes = {499, 500, 515, 516};
        int[] due = {60, -1, -1, 60};
        for (int k = 0; k < 4; k++) {
            GantryHall hall = Halls.at(2 * DAY - 1);
            hall.see(0, 0, DAY + 500, BOX);
            hall.see(0, 0, DAY + 515, BOX);
            Check.same("in minute " + minutes[k], due[k], hall.control(0, 0, DAY + minutes[k]));
        }
        GantryHall next = Halls.at(2 * DAY - 1);
        next.see(0, 0, DAY + 500, BOX);
        next.see(0, 0, DAY + 516, BOX);
        Check.same("of the next one", -1, next.control(0, 0, DAY + 531));
        Check.same("behind the next one", 60, next.control(0, 0, DAY + 532));
    }

    private static void sureThere() {
        GantryHall hall = Halls.at(2 * DAY - 1);
        hall.see(0, 0, DAY + 100, BOX);
        hall.see(0, 2, DAY + 110, BOX);
        Check.same("INFERRED in that minute", DAY + 105, hall.ofPassage(0, 1, 1, 1));
        Check.same("an INFERRED one is none", 100, hall.control(0, 1, DAY + 105));
        Check.same("a SURE one", -1, hall.control(0, 2, DAY + 110));
        Check.same("on another SEGMENT", 0, hall.control(0, 3, DAY + 100));
        Check.same("of another VEHICLE", 60, hall.control(1, 0, DAY + 100));
        hall.see(1, 0, DAY + 100, CAMERA);
        Check.same("a DOUBTFUL one is none", 60, hall.control(1, 0, DAY + 100));
        hall.see(1, 0, DAY + 115, CAMERA);
        Check.same("SURE by two", -1, hall.control(1, 0, DAY + 100));
        Check.same("CATCHES", 4, hall.many(10));
    }

    private static void overMidnight() {
        int[] minutes = {0, 13, 14, 15};
        int[] due = {-1, -1, -1, 60};
        for (int k = 0; k < 4; k++) {
            GantryHall hall = Halls.at(3 * DAY - 1);
            hall.see(0, 0, 2 * DAY - 1, BOX);
            Check.same("in minute " + minutes[k], due[k], hall.control(0, 0, 2 * DAY + minutes[k]));
        }
        // It began with its SIGHTING ahead of midnight, though another one is seen behind.
        GantryHall hall = Halls.at(3 * DAY - 1);
        hall.see(0, 0, 2 * DAY - 1, CAMERA);
        hall.see(0, 0, 2 * DAY, CAMERA);
        Check.same("two DOUBTFUL ones of two DAYS", 60, hall.control(0, 0, 2 * DAY));
        // The DAY ahead may be CLOSED.
        GantryHall closed = Halls.at(2 * DAY);
        closed.see(0, 0, 2 * DAY - 1, BOX);
        Halls.until(closed, 3 * DAY);
        Check.state(closed, "CLOSED", () -> closed.control(0, 0, 2 * DAY - 1));
        Check.same("behind a CLOSED one", -1, closed.control(0, 0, 2 * DAY + 14));
        Check.same("15 behind a CLOSED one", 60, closed.control(0, 0, 2 * DAY + 15));
    }

    private static void fine() {
        GantryHall hall = Halls.at(2 * DAY);
        Check.same("twice the TOLL", 60, hall.control(0, 0, DAY));
        Check.same("at once", -60, hall.ofVehicle(0, BALANCE));
        Check.same("to the HALL", 60, hall.many(8));
        Check.same("not to the OWNER", 0, hall.ofOwner(0, 0));
        Check.same("a CATCH", 1, hall.many(10));
        Check.same("of a GUEST", 100, hall.control(2, 1, DAY));
        Check.same("and no 10 more", -100, hall.ofVehicle(2, BALANCE));
        Check.same("with no TARIFF", 0, hall.control(0, 3, DAY));
        hall.exempt(0, 0, true);
        Check.same("EXEMPT", 0, hall.control(0, 0, DAY));
        hall.shut(1, DAY, DAY);
        Check.same("SHUT", 0, hall.control(0, 1, DAY));
        Check.same("not SHUT", 100, hall.control(0, 1, DAY + 1));
        Check.same("of DAY 1, with a TARIFF of DAY 2", 140, hall.control(0, 2, 2 * DAY));
        Check.same("a CATCH without a FINE too", 7, hall.many(10));
        Check.same("all FINES", 300, hall.ofVehicle(0, 7));
        Check.same("all of them to the HALL", 400, hall.many(8));
        GantryHall far = Halls.at(DAY);
        Check.same("of a minute in which all was free", 0, far.control(0, 0, DAY - 1));
        // No CAP holds for a FINE.
        far.cap(50);
        Check.same("above the CAP", 140, far.control(0, 2, DAY));
    }

    private DueEdges() {
    }
}
