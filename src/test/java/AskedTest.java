/** Promises 15 to 23: what is asked. */
public final class AskedTest {
    private static final int[] OUTSIDE = {-1, Integer.MIN_VALUE, Integer.MAX_VALUE};

    public static void main(String[] args) {
        ofSegment();
        ofVehicle();
        ofSighting();
        ofOwner();
        onDayZero();
        joined();
        sureAndDoubtful();
        inferred();
        reasons();
        capped();
        ofPassageRefused();
        journeys();
        many();
        meanDue();
        Check.end("AskedTest");
    }

    private static GantryHall hall() {
        GantryHall hall = new GantryHall();
        hall.segment(0, 1, 10, 0);
        hall.segment(1, 2, 20, 1);
        hall.segment(2, 3, 30, 2);
        hall.vehicle(0, 0, 0);
        hall.vehicle(1, 1, 1);
        for (int owner = 0; owner < 3; owner++) {
            hall.tariff(owner, 2, 1, 0, 1);
        }
        hall.pass(2800);
        return hall;
    }

    private static void ofSegment() {
        GantryHall hall = hall();
        int[] due = {1, 2, 20, 1, 0};
        for (int what = 0; what < 5; what++) {
            Check.same("15: of 1", due[what], hall.ofSegment(1, what));
        }
        hall.shut(1, 2801, 2802);
        Check.same("15: not yet shut", 0, hall.ofSegment(1, 4));
        hall.pass(1);
        Check.same("15: shut", 1, hall.ofSegment(1, 4));
        Check.same("15: the other one is not", 0, hall.ofSegment(0, 4));
        hall.pass(1);
        Check.same("15: shut still", 1, hall.ofSegment(1, 4));
        hall.pass(1);
        Check.same("15: no longer", 0, hall.ofSegment(1, 4));
        for (int bad : OUTSIDE) {
            Check.index(hall, "15: segment", () -> hall.ofSegment(bad, 0));
            Check.argument(hall, "15: what", () -> hall.ofSegment(0, bad));
        }
        Check.argument(hall, "15: what 5", () -> hall.ofSegment(0, 5));
        Check.index(hall, "15: index ahead of argument", () -> hall.ofSegment(3, 5));
    }

    private static void ofVehicle() {
        GantryHall hall = hall();
        hall.vehicle(0, 0, 2);
        hall.exempt(1, 1, true);
        hall.exempt(1, 3, true);
        hall.pay(1, 7);
        hall.control(1, 0, 2800);
        int[] due = {1, 1, 1, 7 - 66, 0, 10, 0, 66};
        for (int what = 0; what < 8; what++) {
            Check.same("16: of 1", due[what], hall.ofVehicle(1, what));
        }
        hall.control(0, 0, 2800);
        hall.control(2, 0, 2800);
        Check.same("16: prepaid below 0", 1, hall.ofVehicle(0, 4));
        Check.same("16: guest below 0", 0, hall.ofVehicle(2, 4));
        hall.pay(0, 39);
        Check.same("16: prepaid at -1", 1, hall.ofVehicle(0, 4));
        hall.pay(0, 1);
        Check.same("16: prepaid at 0", 0, hall.ofVehicle(0, 4));
        hall.pay(1, 2000 - 3);
        hall.pay(1, 2);
        for (int k = 0; k < 36; k++) {
            hall.control(1, 0, 2800);
        }
        hall.pay(1, 2000 - 1940 - 2 - 4);
        hall.control(1, 0, 2800);
        Check.same("16: post, far enough below", -448, hall.ofVehicle(1, 3));
        Check.same("16: post above the limit", 0, hall.ofVehicle(1, 4));
        hall.pay(1, 14);
        hall.control(1, 0, 2800);
        Check.same("16: post at the limit", -500, hall.ofVehicle(1, 3));
        Check.same("16: not blocked at the limit", 0, hall.ofVehicle(1, 4));
        hall.pay(1, 65);
        hall.control(1, 0, 2800);
        Check.same("16: post below the limit", -501, hall.ofVehicle(1, 3));
        Check.same("16: blocked below the limit", 1, hall.ofVehicle(1, 4));
        for (int bad : OUTSIDE) {
            Check.index(hall, "16: vehicle", () -> hall.ofVehicle(bad, 0));
            Check.argument(hall, "16: what", () -> hall.ofVehicle(0, bad));
        }
        Check.argument(hall, "16: what 8", () -> hall.ofVehicle(0, 8));
        Check.index(hall, "16: index ahead of argument", () -> hall.ofVehicle(3, 8));
    }

    private static void ofSighting() {
        GantryHall hall = hall();
        Check.index(hall, "17: none is there", () -> hall.ofSighting(0, 0));
        hall.see(1, 2, 2799, 1);
        int[] due = {1, 2, 2799, 1, 0};
        for (int what = 0; what < 5; what++) {
            Check.same("17: of 0", due[what], hall.ofSighting(0, what));
        }
        for (int bad : OUTSIDE) {
            Check.index(hall, "17: sighting", () -> hall.ofSighting(bad, 0));
            Check.argument(hall, "17: what", () -> hall.ofSighting(0, bad));
        }
        Check.argument(hall, "17: what 5", () -> hall.ofSighting(0, 5));
        Check.index(hall, "17: index ahead of argument", () -> hall.ofSighting(1, 5));
        hall.pass(3000);
        hall.pass(1399);
        Check.same("17: not erased yet", 2799, hall.ofSighting(0, 2));
        hall.pass(1);
        Check.same("17: the day 5 has begun", 7200, hall.many(0));
        Check.same("17: not erased still", 0, hall.ofSighting(0, 4));
        hall.pass(1439);
        Check.same("17: in its last minute", 1, hall.ofSighting(0, 0));
        hall.pass(1);
        for (int what = 0; what < 4; what++) {
            Check.same("17: erased", -1, hall.ofSighting(0, what));
        }
        Check.same("17: it is erased", 1, hall.ofSighting(0, 4));
        Check.argument(hall, "17: what 5 of an erased one", () -> hall.ofSighting(0, 5));
    }

    private static void ofOwner() {
        GantryHall hall = hall();
        for (int what = 0; what < 4; what++) {
            Check.same("18: without a tariff", 0, hall.ofOwner(3, what));
        }
        hall.tariff(0, 9, 8, 70, 2);
        hall.tariff(3, 30, 9, 100, 3);
        int[] due = {0, 2, 1, 0};
        int[] then = {0, 9, 8, 70};
        for (int what = 0; what < 4; what++) {
            Check.same("18: today", due[what], hall.ofOwner(0, what));
        }
        hall.pass(79);
        Check.same("18: up to midnight", 2, hall.ofOwner(0, 1));
        hall.pass(1);
        for (int what = 0; what < 4; what++) {
            Check.same("18: the next day", then[what], hall.ofOwner(0, what));
        }
        Check.same("18: not yet", 0, hall.ofOwner(3, 3));
        hall.see(0, 1, 2880, 0);
        hall.pass(2880);
        Check.same("18: what it has", 38, hall.ofOwner(1, 0));
        Check.same("18: then", 100, hall.ofOwner(3, 3));
        for (int bad : OUTSIDE) {
            Check.index(hall, "18: owner", () -> hall.ofOwner(bad, 0));
            Check.argument(hall, "18: what", () -> hall.ofOwner(0, bad));
        }
        Check.argument(hall, "18: what 4", () -> hall.ofOwner(0, 4));
        Check.index(hall, "18: index ahead of argument", () -> hall.ofOwner(4, 4));
    }

    private static void onDayZero() {
        GantryHall hall = new GantryHall();
        hall.segment(0, 1, 10, 0);
        hall.vehicle(0, 0, 0);
        hall.see(0, 0, 0, 0);
        Check.same("19: on day 0", 1, hall.passages(0, 0));
        Check.same("20: on day 0", 1, hall.ofPassage(0, 0, 0, 2));
        Check.same("21: on day 0", 1, hall.journeys(0, 0));
        Check.same("23: on day 0", 0.0, hall.meanDue(0));
        Check.same("25: on day 0", 0, hall.bill(0, 0, 999));
    }

    private static void joined() {
        GantryHall hall = hall();
        // Told in no order: 2000, 2010 and 2015 are one, 2016, 2031 the next, 2032 the third.
        int[] minutes = {2016, 2032, 2010, 2031, 2000, 2015};
        for (int minute : minutes) {
            hall.see(0, 0, minute, 0);
        }
        Check.same("19: joined", 3, hall.passages(0, 1));
        int[] first = {2000, 2016, 2032};
        int[] sightings = {3, 2, 1};
        for (int k = 0; k < 3; k++) {
            Check.same("20: segment", 0, hall.ofPassage(0, 1, k, 0));
            Check.same("20: minute", first[k], hall.ofPassage(0, 1, k, 1));
            Check.same("20: sightings", sightings[k], hall.ofPassage(0, 1, k, 2));
        }
        hall.see(0, 1, 2000, 0);
        Check.same("19: another segment", 4, hall.passages(0, 1));
        Check.same("20: by minute, then by segment", 0, hall.ofPassage(0, 1, 0, 0));
        Check.same("20: the other one", 1, hall.ofPassage(0, 1, 1, 0));
        hall.see(1, 0, 2000, 0);
        Check.same("19: another vehicle", 4, hall.passages(0, 1));
        hall.pass(90);
        hall.see(0, 2, 2879, 0);
        hall.see(0, 2, 2880, 0);
        Check.same("19: midnight parts", 5, hall.passages(0, 1));
        Check.same("19: the next day", 1, hall.passages(0, 2));
        Check.same("19: no such day yet", 0, hall.passages(0, Integer.MAX_VALUE));
        for (int bad : OUTSIDE) {
            Check.index(hall, "19: vehicle", () -> hall.passages(bad, 1));
        }
        Check.argument(hall, "19: day", () -> hall.passages(0, -1));
        Check.argument(hall, "19: day, far below", () -> hall.passages(0, Integer.MIN_VALUE));
        Check.index(hall, "19: index ahead of argument", () -> hall.passages(2, -1));
    }

    private static void sureAndDoubtful() {
        GantryHall hall = hall();
        hall.see(0, 2, 1500, 2);
        hall.see(0, 1, 1500, 2);
        hall.see(0, 0, 1490, 2);
        hall.see(0, 0, 1600, 2);
        hall.see(0, 0, 1615, 2);
        hall.see(0, 1, 1620, 1);
        hall.see(0, 2, 1620, 0);
        int[] segments = {0, 1, 2, 0, 1, 2};
        int[] minutes = {1600, 1620, 1620, 1490, 1500, 1500};
        int[] reasons = {0, 0, 0, 1, 1, 1};
        Check.same("19: all of them", 6, hall.passages(0, 1));
        for (int k = 0; k < 6; k++) {
            Check.same("20: segment " + k, segments[k], hall.ofPassage(0, 1, k, 0));
            Check.same("20: minute " + k, minutes[k], hall.ofPassage(0, 1, k, 1));
            Check.same("20: reason " + k, reasons[k], hall.ofPassage(0, 1, k, 3));
        }
        Check.same("20: due of a doubtful one", 0, hall.ofPassage(0, 1, 5, 4));
        hall.see(0, 0, 1491, 2);
        Check.same("20: two by camera are sure", 1490, hall.ofPassage(0, 1, 0, 1));
        Check.same("21: doubtful ones are no journey", 2, hall.journeys(0, 1));
    }

    private static void inferred() {
        GantryHall hall = hall();
        hall.see(0, 0, 1501, 0);
        hall.see(0, 2, 1681, 0);
        Check.same("19: 180 behind", 3, hall.passages(0, 1));
        int[] due = {1, 1591, 0, 0, 40};
        for (int what = 0; what < 5; what++) {
            Check.same("20: inferred", due[what], hall.ofPassage(0, 1, 1, what));
        }
        hall.see(1, 0, 1500, 0);
        hall.see(1, 2, 1681, 0);
        Check.same("19: 181 behind", 2, hall.passages(1, 1));
        hall.see(1, 0, 1499 + 183, 0);
        hall.see(1, 2, 1682, 0);
        Check.same("19: one begins elsewhere, no way", 3, hall.passages(1, 1));
        hall.shut(1, 0, 60000);
        Check.same("19: a shut one too", 3, hall.passages(0, 1));
        Check.same("20: shut", 3, hall.ofPassage(0, 1, 1, 3));
        hall.segment(1, 2, 1, 0);
        Check.same("19: two ways", 2, hall.passages(0, 1));
        GantryHall other = hall();
        other.see(0, 0, 1502, 0);
        other.see(0, 2, 1503, 0);
        Check.same("20: half, rounded down", 1502, other.ofPassage(0, 1, 1, 1));
        other.see(0, 0, 2000, 0);
        other.see(0, 2, 2000, 0);
        Check.same("20: of one minute", 2000, other.ofPassage(0, 1, 4, 1));
        Check.same("20: its segment", 1, other.ofPassage(0, 1, 4, 0));
        other.see(1, 2, 1500, 0);
        other.segment(3, 0, 5, 0);
        other.segment(4, 5, 5, 0);
        other.segment(1, 4, 5, 0);
        other.see(1, 3, 1500, 0);
        other.see(1, 5, 1500, 0);
        Check.same("19: by the first segment", 4, other.passages(1, 1));
        Check.same("20: the first segment", 0, other.ofPassage(1, 1, 2, 0));
        other.exempt(1, 0, true);
        Check.same("20: an inferred one may be exempt", 2, other.ofPassage(1, 1, 2, 3));
        afterDoubtful();
    }

    /** Nothing of a DOUBTFUL one that was asked before clings to an INFERRED one. */
    private static void afterDoubtful() {
        GantryHall hall = hall();
        for (int minute = 1500; minute < 1600; minute += 20) {
            hall.see(0, 0, minute, 2);
        }
        hall.see(1, 0, 1500, 0);
        hall.see(1, 2, 1520, 0);
        Check.same("19: doubtful ones", 5, hall.passages(0, 1));
        Check.same("20: the inferred one is no doubtful one", 0, hall.ofPassage(1, 1, 1, 3));
        Check.same("20: it has no sightings", 0, hall.ofPassage(1, 1, 1, 2));
        Check.same("21: with the inferred one", 1, hall.journeys(1, 1));
        GantryHall other = hall();
        other.see(1, 0, 1500, 0);
        other.see(1, 2, 1520, 2);
        Check.same("19: none to a doubtful one", 2, other.passages(1, 1));
        other.see(1, 2, 1490, 2);
        other.see(1, 1, 1550, 0);
        Check.same("19: none where it begins", 4, other.passages(1, 1));
    }

    private static void reasons() {
        GantryHall hall = hall();
        hall.see(0, 0, 1500, 2);
        hall.exempt(0, 0, true);
        hall.shut(0, 0, 60000);
        Check.same("20: doubtful ahead of all", 1, hall.ofPassage(0, 1, 0, 3));
        hall.see(0, 0, 1500, 0);
        Check.same("20: exempt ahead of shut", 2, hall.ofPassage(0, 1, 0, 3));
        Check.same("20: due of an exempt one", 0, hall.ofPassage(0, 1, 0, 4));
        hall.exempt(0, 0, false);
        Check.same("20: shut", 3, hall.ofPassage(0, 1, 0, 3));
        Check.same("20: due of a shut one", 0, hall.ofPassage(0, 1, 0, 4));
        hall.see(0, 1, 1500, 0);
        Check.same("20: the toll", 0, hall.ofPassage(0, 1, 1, 3));
        Check.same("20: due", 40, hall.ofPassage(0, 1, 1, 4));
    }

    private static void capped() {
        GantryHall hall = hall();
        hall.cap(100);
        hall.see(0, 1, 1500, 0);
        hall.see(0, 2, 1520, 0);
        hall.see(0, 0, 1540, 0);
        Check.same("20: just the cap", 0, hall.ofPassage(0, 1, 1, 3));
        Check.same("20: due of it", 60, hall.ofPassage(0, 1, 1, 4));
        Check.same("20: nothing is left", 4, hall.ofPassage(0, 1, 2, 3));
        Check.same("20: due of it", 0, hall.ofPassage(0, 1, 2, 4));
        hall.cap(99);
        Check.same("20: one too many", 4, hall.ofPassage(0, 1, 1, 3));
        Check.same("20: what is left", 59, hall.ofPassage(0, 1, 1, 4));
        hall.cap(110);
        Check.same("20: less than the toll is left", 10, hall.ofPassage(0, 1, 2, 4));
        hall.segment(1, 4, 10, 3);
        hall.cap(120);
        hall.see(0, 3, 1550, 0);
        Check.same("20: free as the cap is reached", 0, hall.ofPassage(0, 1, 3, 3));
        Check.same("20: due of it", 0, hall.ofPassage(0, 1, 3, 4));
        hall.exempt(0, 1, true);
        Check.same("20: exempt ones count not", 0, hall.ofPassage(0, 1, 1, 3));
    }

    private static void ofPassageRefused() {
        GantryHall hall = hall();
        Check.index(hall, "20: none is there", () -> hall.ofPassage(0, 1, 0, 0));
        hall.see(0, 0, 1500, 0);
        Check.same("20: one is there", 0, hall.ofPassage(0, 1, 0, 0));
        for (int bad : OUTSIDE) {
            Check.index(hall, "20: vehicle", () -> hall.ofPassage(bad, 1, 0, 0));
            Check.index(hall, "20: day", () -> hall.ofPassage(0, bad, 0, 0));
            Check.index(hall, "20: k", () -> hall.ofPassage(0, 1, bad, 0));
            Check.argument(hall, "20: what", () -> hall.ofPassage(0, 1, 0, bad));
        }
        Check.index(hall, "20: k 1", () -> hall.ofPassage(0, 1, 1, 0));
        Check.argument(hall, "20: what 5", () -> hall.ofPassage(0, 1, 0, 5));
        Check.index(hall, "20: index ahead of argument", () -> hall.ofPassage(0, 1, 1, 5));
    }

    private static void journeys() {
        GantryHall hall = hall();
        Check.same("21: none", 0, hall.journeys(0, 1));
        hall.see(0, 0, 1500, 0);
        Check.same("21: one", 1, hall.journeys(0, 1));
        hall.see(0, 1, 1620, 0);
        Check.same("21: 120 behind", 1, hall.journeys(0, 1));
        hall.see(0, 2, 1741, 0);
        Check.same("21: 121 behind", 2, hall.journeys(0, 1));
        hall.see(0, 0, 1750, 0);
        Check.same("21: elsewhere", 3, hall.journeys(0, 1));
        hall.see(0, 1, 1755, 2);
        Check.same("21: doubtful ones count not", 3, hall.journeys(0, 1));
        hall.see(0, 2, 1780, 0);
        Check.same("21: by an inferred one", 3, hall.journeys(0, 1));
        hall.see(1, 0, 1500, 0);
        hall.see(1, 2, 1680, 0);
        Check.same("21: an inferred one parts a long way", 1, hall.journeys(1, 1));
        Check.same("21: far away", 0, hall.journeys(0, Integer.MAX_VALUE));
        for (int bad : OUTSIDE) {
            Check.index(hall, "21: vehicle", () -> hall.journeys(bad, 1));
        }
        Check.argument(hall, "21: day", () -> hall.journeys(0, -1));
        Check.argument(hall, "21: day, far below", () -> hall.journeys(0, Integer.MIN_VALUE));
        Check.index(hall, "21: index ahead of argument", () -> hall.journeys(2, -1));
        hall.pass(3000);
        hall.pass(3000);
        Check.same("21: erased", 0, hall.journeys(0, 1));
    }

    private static void many() {
        GantryHall hall = hall();
        hall.vehicle(2, 3, 2);
        hall.holiday(7);
        hall.cap(777);
        hall.see(0, 0, 1500, 0);
        hall.see(1, 1, 2800, 2);
        hall.control(0, 2, 1500);
        hall.pass(1520);
        Check.same("22: the minute", 4320, hall.many(0));
        hall.see(0, 0, 4320, 1);
        hall.shut(0, 1500, 1500);
        hall.dispute(0, 1);
        hall.pay(0, 1);
        hall.pay(0, 1);
        int[] due = {4320, 3, 3, 3, 0, 3, 1, 777, 120, 1, 1, 0, 20, 1, 1};
        for (int what = 0; what <= 14; what++) {
            Check.same("22: many(" + what + ")", due[what], hall.many(what));
        }
        hall.pass(2880);
        Check.same("22: none erased yet", 0, hall.many(4));
        hall.pass(1440);
        Check.same("22: erased", 2, hall.many(4));
        for (int bad : OUTSIDE) {
            Check.argument(hall, "22: what", () -> hall.many(bad));
        }
        Check.argument(hall, "22: what 15", () -> hall.many(15));
    }

    private static void meanDue() {
        GantryHall hall = hall();
        Check.same("23: none", 0.0, hall.meanDue(1));
        hall.see(0, 0, 1500, 0);
        hall.see(0, 0, 1520, 2);
        Check.same("23: one that is sure", 20.0, hall.meanDue(1));
        hall.see(0, 2, 1530, 0);
        Check.same("23: with the inferred one", 40.0, hall.meanDue(1));
        hall.see(1, 0, 1530, 0);
        Check.same("23: of all vehicles", (20 + 40 + 60 + 33) / 4.0, hall.meanDue(1));
        hall.cap(50);
        Check.same("23: by the cap of now", (20 + 30 + 33) / 4.0, hall.meanDue(1));
        hall.exempt(1, 0, true);
        hall.exempt(0, 2, true);
        hall.see(1, 1, 1535, 0);
        Check.same("23: not rounded", 100 / 5.0, hall.meanDue(1));
        hall.see(1, 0, 1555, 0);
        Check.same("23: not rounded at all", 100 / 6.0, hall.meanDue(1));
        Check.same("23: far away", 0.0, hall.meanDue(Integer.MAX_VALUE));
        Check.argument(hall, "23: day", () -> hall.meanDue(-1));
        Check.argument(hall, "23: day, far below", () -> hall.meanDue(Integer.MIN_VALUE));
    }
}
