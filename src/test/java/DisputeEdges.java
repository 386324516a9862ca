/** Edges of what term 5 says of a DISPUTE. */
final class DisputeEdges {
    private static final int DAY = Halls.DAY;
    private static final int BOX = 0;
    private static final int CAMERA = 2;
    private static final int BALANCE = 3;

    static void test(Sentences terms) {
        terms.test("A DISPUTE of a VEHICLE and a DAY that is CLOSED, and not ERASED", DisputeEdges::closedNotErased);
        terms.test("its BILL is made anew by the SIGHTINGS as they are now", DisputeEdges::bySightings);
        terms.test("by the SEGMENTS, TARIFFS, HOLIDAYS, EXEMPTIONS and SHUT times as they are told by now",
                DisputeEdges::byTold);
        terms.test("with the CAP of the closing.", DisputeEdges::capOfClosing);
        terms.test("OWNER by OWNER, if less is DUE than was paid to it", DisputeEdges::ownerByOwner);
        terms.test("and not given back, the VEHICLE gets the difference back", DisputeEdges::notGivenBack);
        terms.test("of what is DUE now the OWNER keeps all less a twentieth, the HALL that twentieth",
                DisputeEdges::twentieth);
        terms.test("if it is no less, all stays.", DisputeEdges::noLess);
        terms.test("The 10 of a GUEST stay with the HALL in any case.", DisputeEdges::guest);
    }

    private static void has(GantryHall hall, int balance, int owner0, int owner1, int atHall) {
        Check.same("BALANCE", balance, hall.ofVehicle(0, BALANCE));
        Check.same("OWNER 0", owner0, hall.ofOwner(0, 0));
        Check.same("OWNER 1", owner1, hall.ofOwner(1, 0));
        Check.same("the HALL", atHall, hall.many(8));
    }

    private static void closedNotErased() {
        GantryHall hall = Halls.at(3 * DAY - 1);
        hall.see(0, 0, DAY, BOX);
        Check.argument(hall, "not CLOSED", () -> hall.dispute(0, 1));
        hall.pass(1);
        Check.same("CLOSED", 0, hall.dispute(0, 1));
        hall.exempt(0, 0, true);
        Check.same("in its first minute", 30, hall.dispute(0, 1));
        GantryHall late = Halls.at(DAY);
        late.see(0, 0, DAY, BOX);
        Halls.until(late, 6 * DAY - 1);
        late.exempt(0, 0, true);
        Check.same("in its last minute", 30, late.dispute(0, 1));
        late.pass(1);
        Check.argument(late, "ERASED", () -> late.dispute(0, 1));
    }

    private static void bySightings() {
        GantryHall hall = Halls.at(DAY + 100);
        hall.see(0, 0, DAY, CAMERA);
        hall.see(0, 0, DAY + 10, CAMERA);
        hall.see(1, 1, DAY, CAMERA);
        hall.see(1, 1, DAY + 10, CAMERA);
        Check.same("both BILLS", 80, Halls.until(hall, 3 * DAY));
        hall.correct(2, 0);
        Check.same("one more that is DOUBTFUL", 0, hall.dispute(0, 1));
        Check.same("one less, so DOUBTFUL", 50, hall.dispute(1, 1));
        hall.correct(0, 1);
        Check.same("one less, so DOUBTFUL too", 30, hall.dispute(0, 1));
        Check.same("nothing more", 0, hall.dispute(1, 1));
    }

    private static GantryHall paid() {
        GantryHall hall = Halls.at(DAY + 100);
        hall.see(0, 0, DAY + 10, BOX);
        hall.see(0, 2, DAY + 20, BOX);
        Check.same("the BILL", 150, Halls.until(hall, 3 * DAY));
        return hall;
    }

    private static void byTold() {
        GantryHall hall = paid();
        for (int owner = 0; owner < 3; owner++) {
            hall.tariff(owner, 1, 0, 0, 4);
        }
        hall.holiday(4);
        Check.same("later TARIFFS and HOLIDAYS", 0, hall.dispute(0, 1));
        hall.segment(1, 2, 1, 3);
        Check.same("a SEGMENT: there is no more just one", 50, hall.dispute(0, 1));
        hall.shut(0, DAY + 11, 60000);
        Check.same("SHUT behind it", 0, hall.dispute(0, 1));
        hall.shut(0, 0, DAY + 9);
        Check.same("SHUT ahead of it", 0, hall.dispute(0, 1));
        hall.shut(0, DAY + 10, DAY + 10);
        Check.same("SHUT", 30, hall.dispute(0, 1));
        hall.exempt(0, 2, true);
        Check.same("EXEMPT", 70, hall.dispute(0, 1));
        has(hall, 0, 0, 0, 0);
    }

    private static void capOfClosing() {
        GantryHall hall = Halls.at(2 * DAY);
        for (int day = 1; day <= 2; day++) {
            hall.see(0, 0, day * DAY, BOX);
            hall.see(0, 1, day * DAY, BOX);
        }
        hall.cap(60);
        Check.same("with a CAP of 60", 60, Halls.until(hall, 3 * DAY));
        hall.cap(70);
        Check.same("with a CAP of 70", 70, Halls.until(hall, 4 * DAY));
        hall.cap(50);
        Check.same("no lower CAP", 0, hall.dispute(0, 1) + hall.dispute(0, 2));
        // OWNER 1 had 30 of 50 by the CAP of 60, and 40 by that of 70; with OWNER 0 free it is due 50.
        hall.exempt(0, 0, true);
        Check.same("of DAY 1", 30, hall.dispute(0, 1));
        hall.cap(999);
        hall.exempt(0, 0, false);
        hall.exempt(0, 1, true);
        Check.same("of OWNER 1 on DAY 1", 30, hall.dispute(0, 1));
        Check.same("of OWNER 1 on DAY 2", 40, hall.dispute(0, 2));
    }

    private static void ownerByOwner() {
        GantryHall hall = Halls.at(DAY + 100);
        hall.see(0, 0, DAY, BOX);
        hall.see(0, 1, DAY, BOX);
        hall.cap(60);
        Check.same("CAPPED", 60, Halls.until(hall, 3 * DAY));
        has(hall, -60, 29, 29, 2);
        // To OWNER 0 nothing is DUE then, to OWNER 1 20 more: these do not make up for one another.
        hall.shut(0, DAY, DAY);
        Check.same("the BILL now", 50, hall.bill(0, 1, 60));
        Check.same("back from OWNER 0", 30, hall.dispute(0, 1));
        has(hall, -30, 0, 29, 1);
        Check.same("all that was given back", 30, hall.many(12));
        eachApart();
    }

    /** What was paid by each VEHICLE, for each DAY, to each OWNER is kept apart from all the rest. */
    private static void eachApart() {
        GantryHall hall = Halls.many();
        hall.tariff(3, 9, 0, 0, 1);
        Halls.until(hall, 4 * DAY - 1);
        int[] tolls = {30, 50, 70, 90};
        int[] vehicles = {0, 1, 6, 7};
        for (int day = 2; day <= 3; day++) {
            for (int k = 0; k < 4; k++) {
                seeOnAllBut(hall, vehicles[k], (k + day) % 4, day * DAY);
            }
        }
        Halls.until(hall, 5 * DAY);
        for (int owner = 3; owner >= 0; owner--) {
            for (int vehicle = 0; vehicle < 8; vehicle++) {
                hall.exempt(vehicle, owner, true);
            }
            for (int day = 2; day <= 3; day++) {
                for (int vehicle = 7; vehicle >= 0; vehicle--) {
                    int k = vehicle < 2 ? vehicle : vehicle - 4;
                    int due = vehicle >= 2 && vehicle < 6 || (k + day) % 4 == owner ? 0 : tolls[owner];
                    Check.same("OWNER " + owner + ", VEHICLE " + vehicle + ", DAY " + day, due,
                            hall.dispute(vehicle, day));
                }
            }
            Check.same("nothing is left to OWNER " + owner, 0, hall.ofOwner(owner, 0));
        }
        Check.same("nor to the HALL, but for GUESTS", 0, hall.many(8));
    }

    /** Against the way, so that none is INFERRED. */
    private static void seeOnAllBut(GantryHall hall, int vehicle, int segment, int minute) {
        for (int k = 0; k < 4; k++) {
            if (k != segment) {
                hall.see(vehicle, k, minute + 3 - k, BOX);
            }
        }
    }

    private static void notGivenBack() {
        GantryHall hall = Halls.ofLength(60);
        hall.segment(2, 3, 1, 0);
        hall.see(0, 0, 1500, BOX);
        hall.see(0, 1, 1500, BOX);
        Check.same("the BILL", 61, Halls.until(hall, 3 * DAY));
        has(hall, -61, 58, 0, 3);
        hall.shut(1, 1500, 1500);
        Check.same("less by 1", 1, hall.dispute(0, 1));
        has(hall, -60, 57, 0, 3);
        Check.same("not twice", 0, hall.dispute(0, 1));
        hall.exempt(0, 0, true);
        Check.same("the rest alone", 60, hall.dispute(0, 1));
        has(hall, 0, 0, 0, 0);
        hall.exempt(0, 0, false);
        Check.same("more is DUE than was not given back", 0, hall.dispute(0, 1));
        has(hall, 0, 0, 0, 0);
        hall.exempt(0, 0, true);
        Check.same("nothing is left to give back", 0, hall.dispute(0, 1));
        Check.same("given back", 61, hall.many(12));
        Check.same("taken", 0, hall.many(11));
        Check.same("taken of it", 0, hall.ofVehicle(0, 6));
    }

    private static void twentieth() {
        GantryHall hall = Halls.ofLength(39);
        hall.segment(2, 3, 1, 0);
        hall.segment(4, 5, 20, 0);
        for (int segment = 0; segment < 3; segment++) {
            hall.see(0, segment, 1500, BOX);
        }
        Check.same("the BILL", 60, Halls.until(hall, 3 * DAY));
        has(hall, -60, 57, 0, 3);
        hall.shut(2, 1500, 1500);
        Check.same("back", 20, hall.dispute(0, 1));
        // 40 are DUE: 38 and 2.
        has(hall, -40, 38, 0, 2);
        hall.shut(1, 1500, 1500);
        Check.same("1 back", 1, hall.dispute(0, 1));
        // 39 are DUE: 38 and 1.
        has(hall, -39, 38, 0, 1);
    }

    private static void noLess() {
        GantryHall hall = Halls.at(DAY);
        hall.see(0, 0, DAY, BOX);
        hall.see(1, 0, DAY, CAMERA);
        hall.see(1, 0, DAY, BOX);
        hall.exempt(0, 0, true);
        Check.same("only that of VEHICLE 1", 30, Halls.until(hall, 3 * DAY));
        Check.same("as much", 0, hall.dispute(1, 1));
        hall.exempt(0, 0, false);
        Check.same("more", 0, hall.dispute(0, 1));
        has(hall, 0, 29, 0, 1);
        Check.same("nothing is taken", 0, hall.ofVehicle(0, 6));
        Check.same("nor given back", 0, hall.many(12));
        Check.same("for one without any", 0, hall.dispute(2, 1));
        hall.vehicle(0, 0, 0);
        hall.correct(1, 3);
        Check.same("for one that was told behind the closing", 0, hall.dispute(3, 1));
    }

    private static void guest() {
        GantryHall hall = Halls.ofLength(40);
        hall.see(2, 0, 1500, BOX);
        Check.same("the BILL", 40, Halls.until(hall, 3 * DAY));
        Check.same("with the 10", -50, hall.ofVehicle(2, BALANCE));
        hall.exempt(2, 0, true);
        Check.same("all but the 10", 40, hall.dispute(2, 1));
        Check.same("BALANCE", -10, hall.ofVehicle(2, BALANCE));
        Check.same("the HALL", 10, hall.many(8));
        Check.same("taken", 0, hall.ofVehicle(2, 6));
        Check.same("not later", 0, hall.dispute(2, 1));
    }

    private DisputeEdges() {
    }
}
