/** Promises 10 to 14: what comes. */
public final class ComesTest {
    private static final int[] OUTSIDE = {-1, Integer.MIN_VALUE, Integer.MAX_VALUE};

    public static void main(String[] args) {
        see();
        seeRefused();
        alarms();
        correct();
        correctRefused();
        controlWell();
        controlCatch();
        controlRefused();
        disputeGivesBack();
        disputeStays();
        disputeCapOfClosing();
        disputeOfGuest();
        disputeOwnerByOwner();
        disputeApart();
        disputeLate();
        disputeRefused();
        passCloses();
        passTwentieth();
        passList();
        passGuest();
        passErases();
        passRefused();
        Check.end("ComesTest");
    }

    /** SEGMENTS 0 -> 1 (OWNER 0) and 1 -> 2 (OWNER 1), each of 10; RATES 3 and 5 from DAY 1 on; a VEHICLE of each ACCOUNT. */
    private static GantryHall hall() {
        GantryHall hall = new GantryHall();
        hall.segment(0, 1, 10, 0);
        hall.segment(1, 2, 10, 1);
        hall.vehicle(0, 0, 0);
        hall.vehicle(0, 0, 1);
        hall.vehicle(0, 0, 2);
        hall.tariff(0, 3, 0, 0, 1);
        hall.tariff(1, 5, 0, 0, 1);
        return hall;
    }

    private static void see() {
        GantryHall hall = hall();
        hall.pass(3000);
        Check.same("10: first", 0, hall.see(2, 1, 3000, 2));
        Check.same("10: of the day ahead", 1, hall.see(0, 0, 1440, 0));
        Check.same("10: the same again", 2, hall.see(0, 0, 1440, 0));
        Check.same("10: by radio", 3, hall.see(0, 0, 1441, 1));
        Check.same("10: count", 4, hall.many(3));
        int[] due = {2, 1, 3000, 2, 0};
        for (int what = 0; what < 5; what++) {
            Check.same("10: ofSighting", due[what], hall.ofSighting(0, what));
        }
        for (int k = 4; k < 60; k++) {
            Check.same("10: number", k, hall.see(0, 0, 2000, 0));
        }
        Check.state(hall, "10: a 61st", () -> hall.see(0, 0, 2000, 0));
        Check.argument(hall, "10: argument ahead of state", () -> hall.see(0, 0, 2000, 3));
        Check.index(hall, "10: index ahead of all", () -> hall.see(3, 0, 3001, 3));
    }

    private static void seeRefused() {
        GantryHall hall = hall();
        hall.pass(2880);
        for (int bad : OUTSIDE) {
            Check.index(hall, "10: vehicle", () -> hall.see(bad, 0, 2880, 0));
            Check.index(hall, "10: segment", () -> hall.see(0, bad, 2880, 0));
            Check.argument(hall, "10: minute", () -> hall.see(0, 0, bad, 0));
            Check.argument(hall, "10: source", () -> hall.see(0, 0, 2880, bad));
        }
        Check.index(hall, "10: vehicle 3", () -> hall.see(3, 0, 2880, 0));
        Check.index(hall, "10: segment 2", () -> hall.see(0, 2, 2880, 0));
        Check.argument(hall, "10: behind now", () -> hall.see(0, 0, 2881, 0));
        Check.argument(hall, "10: source 3", () -> hall.see(0, 0, 2880, 3));
        Check.state(hall, "10: closed", () -> hall.see(0, 0, 1439, 0));
        Check.argument(hall, "10: argument ahead of closed", () -> hall.see(0, 0, 1439, 3));
        Check.same("10: open", 0, hall.see(0, 0, 1440, 0));
    }

    private static void alarms() {
        GantryHall hall = hall();
        hall.pass(1500);
        hall.control(0, 0, 1500);
        Check.same("10: blocked", 1, hall.many(14));
        hall.see(0, 0, 1500, 1);
        Check.same("10: blocked, but not listed", 0, hall.many(9));
        hall.pass(1440);
        Check.same("10: listed", 1, hall.many(13));
        hall.see(0, 0, 1500, 0);
        hall.see(0, 0, 1500, 2);
        Check.same("10: by no radio", 0, hall.many(9));
        hall.see(1, 0, 1500, 1);
        Check.same("10: of another one", 0, hall.many(9));
        hall.see(0, 0, 1500, 1);
        Check.same("10: an alarm", 1, hall.many(9));
        hall.pay(0, 2000);
        hall.see(0, 0, 1500, 1);
        Check.same("10: listed, but not blocked", 2, hall.many(9));
        Check.state(hall, "10: refused by radio", () -> hall.see(0, 0, 0, 1));
        hall.pass(1440);
        hall.see(0, 0, 4320, 1);
        Check.same("10: no longer listed", 2, hall.many(9));
    }

    private static void correct() {
        GantryHall hall = hall();
        hall.pass(1500);
        hall.see(0, 0, 1500, 2);
        Check.same("11: the one before", 0, hall.correct(0, 2));
        Check.same("11: that then", 2, hall.correct(0, 1));
        Check.same("11: to the same one", 1, hall.correct(0, 1));
        Check.same("11: its vehicle", 1, hall.ofSighting(0, 0));
        Check.same("11: the source stays", 2, hall.ofSighting(0, 3));
        Check.same("11: passages before", 0, hall.passages(0, 1));
        Check.same("11: passages now", 1, hall.passages(1, 1));
        hall.pass(2880);
        Check.same("11: of a closed day", 1, hall.correct(0, 0));
    }

    private static void correctRefused() {
        GantryHall hall = hall();
        hall.pass(1500);
        hall.see(0, 0, 1500, 2);
        hall.see(0, 0, 1500, 0);
        hall.see(0, 0, 1500, 1);
        for (int bad : OUTSIDE) {
            Check.index(hall, "11: sighting", () -> hall.correct(bad, 0));
            Check.index(hall, "11: vehicle", () -> hall.correct(0, bad));
        }
        Check.index(hall, "11: sighting 3", () -> hall.correct(3, 0));
        Check.index(hall, "11: vehicle 3", () -> hall.correct(0, 3));
        Check.index(hall, "11: index ahead of state", () -> hall.correct(1, 3));
        Check.state(hall, "11: by box", () -> hall.correct(1, 1));
        Check.state(hall, "11: by radio", () -> hall.correct(2, 1));
        hall.pass(3000);
        hall.pass(3000);
        hall.pass(1139);
        Check.same("11: the last minute of it", 8639, hall.many(0));
        Check.same("11: not erased yet", 0, hall.correct(0, 1));
        hall.pass(1);
        Check.state(hall, "11: erased", () -> hall.correct(0, 1));
    }

    private static void controlWell() {
        GantryHall hall = hall();
        hall.pass(2900);
        hall.see(0, 0, 2000, 0);
        hall.see(1, 0, 2000, 2);
        hall.see(1, 0, 2010, 2);
        hall.see(0, 0, 2879, 1);
        Check.same("12: in that minute", -1, hall.control(0, 0, 2000));
        Check.same("12: 15 behind", -1, hall.control(0, 0, 2015));
        Check.same("12: two by camera", -1, hall.control(1, 0, 2015));
        Check.same("12: over midnight", -1, hall.control(0, 0, 2880));
        Check.same("12: 15 behind over midnight", -1, hall.control(0, 0, 2894));
        Check.same("12: no catch", 0, hall.many(10));
        Check.same("12: nothing paid", 0, hall.ofVehicle(0, 3));
        Check.same("12: 16 behind over midnight", 60, hall.control(0, 0, 2895));
        Check.same("12: 1 ahead", 60, hall.control(0, 0, 1999));
        Check.same("12: 16 behind", 60, hall.control(0, 0, 2016));
        Check.same("12: behind the second one", 60, hall.control(1, 0, 2016));
        Check.same("12: another segment", 100, hall.control(0, 1, 2000));
        Check.same("12: another vehicle", 60, hall.control(2, 0, 2000));
    }

    private static void controlCatch() {
        GantryHall hall = hall();
        hall.segment(2, 3, 10, 0);
        hall.tariff(0, 3, 0, 50, 1);
        hall.pass(2900);
        hall.see(0, 0, 2000, 0);
        hall.see(0, 2, 2020, 0);
        hall.see(1, 0, 2100, 2);
        Check.same("12: inferred", 3, hall.passages(0, 1));
        Check.same("12: inferred then", 2010, hall.ofPassage(0, 1, 1, 1));
        Check.same("12: an inferred one is none", 100, hall.control(0, 1, 2010));
        Check.same("12: a doubtful one is none", 60, hall.control(1, 0, 2100));
        Check.same("12: in a peak hour", 90, hall.control(2, 0, 1860));
        Check.same("12: balance", -100, hall.ofVehicle(0, 3));
        Check.same("12: fines", 100, hall.ofVehicle(0, 7));
        Check.same("12: of a guest", -90, hall.ofVehicle(2, 3));
        Check.same("12: the hall", 250, hall.many(8));
        Check.same("12: catches", 3, hall.many(10));
        Check.same("12: the owner", 0, hall.ofOwner(0, 0));
        Check.same("12: no bill", 0, hall.many(11));
        Check.same("12: nothing taken", 0, hall.ofVehicle(0, 6));
        hall.exempt(2, 1, true);
        Check.same("12: a catch for nothing", 0, hall.control(2, 1, 2000));
        Check.same("12: it counts", 4, hall.many(10));
        hall.control(2, 0, 2100);
        Check.same("12: fines added", 150, hall.ofVehicle(2, 7));
    }

    private static void controlRefused() {
        GantryHall hall = hall();
        Check.same("12: in the first minute", 0, hall.control(0, 0, 0));
        hall.pass(2880);
        for (int bad : OUTSIDE) {
            Check.index(hall, "12: vehicle", () -> hall.control(bad, 0, 2880));
            Check.index(hall, "12: segment", () -> hall.control(0, bad, 2880));
            Check.argument(hall, "12: minute", () -> hall.control(0, 0, bad));
        }
        Check.index(hall, "12: index ahead of argument", () -> hall.control(3, 0, 2881));
        Check.index(hall, "12: segment 2", () -> hall.control(0, 2, 2880));
        Check.argument(hall, "12: behind now", () -> hall.control(0, 0, 2881));
        Check.state(hall, "12: closed", () -> hall.control(0, 0, 1439));
        Check.same("12: open", 60, hall.control(0, 0, 1440));
    }

    private static void disputeGivesBack() {
        GantryHall hall = hall();
        hall.cap(999);
        hall.pass(1500);
        hall.see(0, 0, 1450, 2);
        hall.see(0, 0, 1452, 2);
        hall.see(0, 0, 1480, 0);
        hall.see(0, 1, 1490, 0);
        Check.same("13: the bill", 110, hall.bill(0, 1, 999));
        hall.pass(1440);
        Check.same("13: taken", 110, hall.pass(1440));
        Check.same("13: owner 0", 57, hall.ofOwner(0, 0));
        Check.same("13: owner 1", 48, hall.ofOwner(1, 0));
        Check.same("13: hall", 5, hall.many(8));
        Check.same("13: nothing back", 0, hall.dispute(0, 1));
        hall.correct(0, 1);
        Check.same("13: a doubtful one is back", 30, hall.dispute(0, 1));
        Check.same("13: not twice", 0, hall.dispute(0, 1));
        Check.same("13: balance", -80, hall.ofVehicle(0, 3));
        Check.same("13: taken less that", 80, hall.ofVehicle(0, 6));
        Check.same("13: owner 0 keeps", 29, hall.ofOwner(0, 0));
        Check.same("13: owner 1 keeps all", 48, hall.ofOwner(1, 0));
        Check.same("13: the hall keeps", 3, hall.many(8));
        Check.same("13: all bills", 80, hall.many(11));
        Check.same("13: given back", 30, hall.many(12));
        Check.same("13: doubtful for the other one", 0, hall.dispute(1, 1));
        hall.exempt(0, 0, true);
        hall.exempt(0, 1, true);
        Check.same("13: all the rest", 80, hall.dispute(0, 1));
        Check.same("13: owner 0 has none", 0, hall.ofOwner(0, 0));
        Check.same("13: owner 1 has none", 0, hall.ofOwner(1, 0));
        Check.same("13: the hall has none", 0, hall.many(8));
        Check.same("13: given back in all", 110, hall.many(12));
        Check.same("13: balance at last", 0, hall.ofVehicle(0, 3));
    }

    private static void disputeStays() {
        GantryHall hall = hall();
        hall.pass(1500);
        hall.see(0, 0, 1450, 0);
        hall.see(1, 0, 1480, 2);
        hall.see(1, 0, 1481, 0);
        hall.pass(2880);
        hall.correct(1, 0);
        hall.see(0, 0, 4000, 2);
        Check.same("13: a doubtful one adds none", 30, hall.bill(0, 1, 999));
        Check.same("13: stays", 0, hall.dispute(0, 1));
        hall.vehicle(0, 0, 0);
        hall.correct(1, 3);
        Check.same("13: of a later vehicle", 0, hall.dispute(3, 1));
        Check.same("13: nothing is taken of it", 0, hall.ofVehicle(3, 3));
        // Once given back, more that is DUE then is not taken again.
        hall.exempt(0, 0, true);
        Check.same("13: exempt", 30, hall.dispute(0, 1));
        hall.exempt(0, 0, false);
        Check.same("13: due again", 0, hall.dispute(0, 1));
        Check.same("13: balance", 0, hall.ofVehicle(0, 3));
        hall.exempt(0, 0, true);
        Check.same("13: nothing more to give back", 0, hall.dispute(0, 1));
    }

    private static void disputeCapOfClosing() {
        GantryHall hall = hall();
        hall.cap(60);
        hall.pass(1500);
        hall.see(0, 0, 1450, 0);
        hall.see(0, 0, 1480, 0);
        hall.see(0, 1, 1490, 0);
        hall.pass(1440);
        hall.cap(70);
        Check.same("13: capped", 70, hall.pass(1440));
        hall.cap(50);
        Check.same("13: a lower cap now", 0, hall.dispute(0, 1));
        hall.cap(999);
        hall.shut(0, 1450, 1450);
        // 0 and 30 to OWNER 0, 40 of 50 to OWNER 1, of whom there was had 60 and 10.
        Check.same("13: by the cap of the closing", 30, hall.dispute(0, 1));
        hall.shut(0, 1480, 1480);
        Check.same("13: all of owner 0", 30, hall.dispute(0, 1));
        Check.same("13: owner 1", 10, hall.ofOwner(1, 0));
        Check.same("13: taken", 10, hall.ofVehicle(0, 6));
        hall.exempt(0, 1, true);
        Check.same("13: only what was paid", 10, hall.dispute(0, 1));
    }

    private static void disputeOfGuest() {
        GantryHall hall = hall();
        hall.pass(1500);
        hall.see(2, 0, 1450, 0);
        hall.pass(1440);
        Check.same("13: without the 10", 30, hall.pass(1440));
        Check.same("13: with the 10", -40, hall.ofVehicle(2, 3));
        Check.same("13: the hall", 11, hall.many(8));
        hall.shut(0, 0, 1450);
        Check.same("13: without the 10 too", 30, hall.dispute(2, 1));
        Check.same("13: the 10 stay", -10, hall.ofVehicle(2, 3));
        Check.same("13: with the hall", 10, hall.many(8));
        Check.same("13: none taken", 0, hall.ofVehicle(2, 6));
    }

    private static void disputeOwnerByOwner() {
        GantryHall hall = hall();
        hall.segment(2, 3, 10, 0);
        hall.pass(1500);
        hall.see(0, 0, 1450, 0);
        hall.see(0, 2, 1460, 0);
        Check.same("13: three", 110, hall.bill(0, 1, 999));
        hall.pass(2880);
        Check.same("13: owner 1 has", 48, hall.ofOwner(1, 0));
        hall.segment(1, 2, 1, 3);
        Check.same("13: a segment told later", 50, hall.dispute(0, 1));
        Check.same("13: owner 1 gave", 0, hall.ofOwner(1, 0));
        Check.same("13: owner 0 keeps", 57, hall.ofOwner(0, 0));
        Check.same("13: the hall keeps", 3, hall.many(8));
    }

    /** What was paid for one VEHICLE, DAY and OWNER is kept apart from all others. */
    private static void disputeApart() {
        GantryHall hall = hall();
        hall.pass(1440);
        for (int day = 1; day <= 3; day++) {
            for (int vehicle = 0; vehicle < 3; vehicle++) {
                if (vehicle != day - 1) {
                    hall.see(vehicle, 0, day * 1440, 0);
                    hall.see(vehicle, 1, day * 1440, 0);
                }
            }
            hall.pass(1440);
        }
        hall.pass(1440);
        for (int owner = 0; owner < 2; owner++) {
            for (int vehicle = 0; vehicle < 3; vehicle++) {
                hall.exempt(vehicle, owner, true);
            }
            for (int day = 1; day <= 3; day++) {
                for (int vehicle = 0; vehicle < 3; vehicle++) {
                    int due = vehicle == day - 1 ? 0 : owner == 0 ? 30 : 50;
                    Check.same("13: day " + day + ", vehicle " + vehicle, due, hall.dispute(vehicle, day));
                }
            }
        }
        Check.same("13: none is left", 0, hall.many(11));
    }

    private static void disputeLate() {
        GantryHall hall = hall();
        hall.segment(2, 3, 10, 3);
        for (int k = 3; k < 8; k++) {
            hall.vehicle(0, 0, 1);
        }
        hall.tariff(3, 4, 0, 0, 1);
        for (int k = 0; k < 18; k++) {
            hall.pass(3000);
        }
        hall.pass(39 * 1440 + 10 - 54000);
        hall.see(7, 2, 39 * 1440, 0);
        hall.cap(50);
        Check.same("14: the last day that is closed", 40, hall.pass(3000));
        hall.cap(999);
        hall.pass(60000 - hall.many(0));
        hall.shut(2, 0, 60000);
        Check.same("13: of the last day that is closed", 40, hall.dispute(7, 39));
        Check.same("13: the owner has none", 0, hall.ofOwner(3, 0));
    }

    private static void disputeRefused() {
        GantryHall hall = hall();
        Check.argument(hall, "13: nothing is closed", () -> hall.dispute(0, 0));
        hall.pass(2879);
        Check.argument(hall, "13: not closed yet", () -> hall.dispute(0, 0));
        hall.pass(1);
        Check.same("13: closed", 0, hall.dispute(0, 0));
        Check.argument(hall, "13: the next one is not", () -> hall.dispute(0, 1));
        for (int bad : OUTSIDE) {
            Check.index(hall, "13: vehicle", () -> hall.dispute(bad, 0));
            Check.argument(hall, "13: day", () -> hall.dispute(0, bad));
        }
        Check.index(hall, "13: index ahead of argument", () -> hall.dispute(3, -1));
        hall.pass(3000);
        hall.pass(1319);
        Check.same("13: day 4", 7199, hall.many(0));
        Check.same("13: not erased yet", 0, hall.dispute(0, 0));
        hall.pass(1);
        Check.argument(hall, "13: erased", () -> hall.dispute(0, 0));
        Check.same("13: the next one", 0, hall.dispute(0, 1));
    }

    private static void passCloses() {
        GantryHall hall = hall();
        Check.same("14: one minute", 0, hall.pass(1));
        Check.same("14: now", 1, hall.many(0));
        Check.same("14: the first day", 0, hall.pass(1439));
        hall.cap(60);
        hall.see(0, 0, 1440, 0);
        hall.see(0, 0, 1440, 0);
        hall.see(1, 1, 1440, 0);
        hall.pass(100);
        hall.see(0, 1, 1540, 0);
        Check.same("14: up to the last minute ahead", 0, hall.pass(2779));
        Check.same("14: open still", 0, hall.ofVehicle(0, 6));
        hall.see(0, 0, 4319, 0);
        Check.same("14: closed", 110, hall.pass(1));
        Check.same("14: now 2", 4320, hall.many(0));
        Check.same("14: taken", 60, hall.ofVehicle(0, 6));
        Check.same("14: balance", -60, hall.ofVehicle(0, 3));
        Check.same("14: of the other one", 50, hall.ofVehicle(1, 6));
        Check.same("14: owner 0", 29, hall.ofOwner(0, 0));
        // A twentieth of 30 and one of 50, each of one BILL: 1 and 2.
        Check.same("14: owner 1", 29 + 48, hall.ofOwner(1, 0));
        Check.same("14: hall", 1 + 1 + 2, hall.many(8));
        Check.same("14: all bills", 110, hall.many(11));
        Check.same("14: two days at once", 30, hall.pass(2880));
        Check.same("14: all bills then", 140, hall.many(11));
        GantryHall other = hall();
        other.pass(1440);
        other.see(0, 0, 1440, 0);
        other.pass(1439);
        other.see(0, 1, 2879, 0);
        other.see(0, 1, 2880 - 40, 0);
        Check.same("14: one day", 0, other.pass(1));
        other.see(0, 0, 2880, 0);
        Check.same("14: both days", 30 + 100 + 30, other.pass(2880));
    }

    private static void passTwentieth() {
        GantryHall hall = new GantryHall();
        hall.segment(0, 1, 19, 0);
        hall.segment(1, 2, 20, 1);
        hall.segment(2, 3, 59, 2);
        hall.segment(3, 4, 19, 3);
        hall.vehicle(0, 0, 1);
        for (int owner = 0; owner < 4; owner++) {
            hall.tariff(owner, 1, 0, 0, 1);
        }
        hall.pass(1500);
        for (int segment = 0; segment < 4; segment++) {
            hall.see(0, segment, 1500, 0);
        }
        // All of a BILL together: 19 and 19 are 38, of which a twentieth is 1.
        hall.see(0, 3, 1440, 0);
        Check.same("14: all of them", 0, hall.pass(1380));
        Check.same("14: all bills", 19 + 20 + 59 + 38, hall.pass(1440));
        Check.same("14: none of 19", 19, hall.ofOwner(0, 0));
        Check.same("14: 1 of 20", 19, hall.ofOwner(1, 0));
        Check.same("14: 2 of 59", 57, hall.ofOwner(2, 0));
        Check.same("14: 1 of 38", 37, hall.ofOwner(3, 0));
        Check.same("14: the hall", 4, hall.many(8));
    }

    private static void passList() {
        GantryHall hall = hall();
        hall.vehicle(0, 0, 1);
        hall.cap(999);
        hall.pass(1440);
        for (int k = 0; k < 17; k++) {
            hall.see(1, 0, 1440, 0);
            hall.pass(16);
            hall.see(1, 0, 1440 + 16 * (k + 1), 0);
        }
        hall.see(0, 0, 1440, 0);
        hall.see(2, 0, 1440, 0);
        Check.same("14: many of them", 540, hall.bill(1, 1, 999));
        hall.pass(2880 - hall.many(0) + 1439);
        Check.same("14: none is listed", 0, hall.many(13));
        hall.pass(1);
        Check.same("14: blocked", 3, hall.many(14));
        Check.same("14: listed behind what is closed", 3, hall.many(13));
        Check.same("14: as the vehicle says", 1, hall.ofVehicle(1, 4));
        Check.same("14: a guest never is", 0, hall.ofVehicle(2, 4));
        Check.same("14: one without a bill", 0, hall.ofVehicle(3, 4));
        hall.pay(0, 30);
        hall.pay(1, 40);
        Check.same("14: just so", 0, hall.many(14));
        Check.same("14: listed still", 3, hall.many(13));
        hall.pass(1439);
        Check.same("14: listed all day", 3, hall.many(13));
        hall.pass(1);
        Check.same("14: no longer", 0, hall.many(13));
        hall.control(1, 0, 4321);
        Check.same("14: by a fine", 2, hall.many(14));
        Check.same("14: not listed yet", 0, hall.many(13));
    }

    private static void passGuest() {
        GantryHall hall = hall();
        hall.pass(2000);
        hall.see(2, 0, 2000, 2);
        hall.pass(2880);
        Check.same("14: a bill of 0 costs no 10", 0, hall.ofVehicle(2, 3));
        hall.see(2, 0, 4000, 0);
        Check.same("14: without the 10", 30, hall.pass(1440));
        Check.same("14: the guest paid", -40, hall.ofVehicle(2, 3));
        Check.same("14: taken without", 30, hall.ofVehicle(2, 6));
        Check.same("14: all without", 30, hall.many(11));
        Check.same("14: the hall has", 11, hall.many(8));
        Check.same("14: the owner has", 29, hall.ofOwner(0, 0));
        GantryHall other = new GantryHall();
        other.segment(0, 1, 1, 0);
        other.vehicle(0, 0, 2);
        other.tariff(0, 1, 0, 0, 1);
        other.pass(1440);
        other.see(0, 0, 1440, 0);
        other.pass(2880);
        Check.same("14: a bill of 1 costs 10 more", -11, other.ofVehicle(0, 3));
    }

    private static void passErases() {
        GantryHall hall = hall();
        hall.see(0, 0, 0, 0);
        hall.pass(1440);
        hall.see(0, 0, 1439, 0);
        hall.see(0, 0, 1440, 0);
        hall.pass(3000);
        hall.pass(2759);
        Check.same("14: the last minute ahead", 7199, hall.many(0));
        Check.same("14: none erased", 0, hall.many(4));
        Check.same("14: passages of it", 2, hall.passages(0, 0));
        hall.pass(1);
        Check.same("14: erased", 2, hall.many(4));
        Check.same("14: no passages of it", 0, hall.passages(0, 0));
        Check.same("14: others are left", 1, hall.passages(0, 1));
        Check.same("14: all ever", 3, hall.many(3));
        hall.pass(3000);
        Check.same("14: all erased", 3, hall.many(4));
    }

    private static void passRefused() {
        GantryHall hall = hall();
        for (int bad : OUTSIDE) {
            Check.argument(hall, "14: minutes", () -> hall.pass(bad));
        }
        Check.argument(hall, "14: minutes 0", () -> hall.pass(0));
        Check.argument(hall, "14: minutes 3001", () -> hall.pass(3001));
        for (int k = 1; k < 20; k++) {
            hall.pass(3000);
        }
        hall.pass(2999);
        Check.state(hall, "14: above 60000", () -> hall.pass(2));
        Check.argument(hall, "14: argument ahead of state", () -> hall.pass(3001));
        Check.same("14: up to 60000", 0, hall.pass(1));
        Check.same("14: the last minute", 60000, hall.many(0));
        Check.state(hall, "14: no more", () -> hall.pass(1));
    }
}
