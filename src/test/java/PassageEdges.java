/** Edges of term 4: sightings and passages. */
final class PassageEdges {
    private static final int DAY = Halls.DAY;
    private static final int BOX = 0;
    private static final int RADIO = 1;
    private static final int CAMERA = 2;
    private static final int SEGMENT = 0;
    private static final int MINUTE = 1;
    private static final int SIGHTINGS = 2;
    private static final int REASON = 3;

    static void test(Sentences terms) {
        sightings(terms);
        passages(terms);
        inferred(terms);
        order(terms);
    }

    private static void sightings(Sentences terms) {
        terms.test("A SIGHTING (at most 60 ever, numbered from 0)", PassageEdges::sightingNumbers);
        terms.test("in a minute up to NOW", PassageEdges::upToNow);
        terms.test("whose DAY is not CLOSED", PassageEdges::notClosed);
        terms.test("by a SOURCE: 0 BOX, 1 RADIO, 2 CAMERA.", PassageEdges::sources);
        terms.test("That of a CAMERA can be CORRECTED: it is of another VEHICLE then.", PassageEdges::corrected);
    }

    private static void passages(Sentences terms) {
        terms.test("and all those of it there and of that DAY up to 15 minutes later, are one", PassageEdges::upTo15);
        terms.test("the earliest SIGHTING of a VEHICLE on a SEGMENT on a DAY", PassageEdges::apart);
        terms.test("the earliest one of those that are left, and those up to 15 minutes behind that, the next one",
                PassageEdges::nextOne);
        terms.test("Its minute is that of its earliest one.", PassageEdges::earliest);
        terms.test("It is SURE, if one of them is by BOX or RADIO", PassageEdges::sureBySource);
        terms.test("or two or more are there; otherwise DOUBTFUL.", PassageEdges::sureByTwo);
    }

    private static void inferred(Sentences terms) {
        terms.test("SURE ones of a VEHICLE on a DAY follow one another by minute, of the same minute by SEGMENT.",
                PassageEdges::sureOrder);
        terms.test("If one of them begins at another KNOT than that where the one ahead ended",
                PassageEdges::otherKnot);
        terms.test("at most 180 minutes behind it", PassageEdges::atMost180);
        terms.test("and there is just one SEGMENT", PassageEdges::justOne);
        terms.test("(SHUT or not)", PassageEdges::shutOrNot);
        terms.test("from that KNOT to this one", PassageEdges::thatWay);
        terms.test("in the minute that is half of both added.", PassageEdges::halfOfBoth);
    }

    private static void order(Sentences terms) {
        terms.test("are the SURE ones with the INFERRED ones between them", PassageEdges::inferredBetween);
        terms.test("behind all these come the DOUBTFUL ones, by minute, then by SEGMENT.",
                PassageEdges::doubtfulBehind);
    }

    private static void sightingNumbers() {
        GantryHall hall = Halls.at(DAY);
        for (int k = 0; k < 60; k++) {
            Check.same("number", k, hall.see(k % 3, k % 4, DAY, k % 3));
        }
        Check.state(hall, "a 61st", () -> hall.see(0, 0, DAY, BOX));
        Check.same("the last one stays", 2, hall.ofSighting(59, 3));
        Check.index(hall, "no number 60", () -> hall.ofSighting(60, 0));
        Halls.until(hall, 7 * DAY);
        Check.same("all are ERASED", 60, hall.many(4));
        Check.state(hall, "a 61st behind the ERASED ones", () -> hall.see(0, 0, 7 * DAY, BOX));
    }

    private static void upToNow() {
        GantryHall hall = Halls.told();
        Check.argument(hall, "behind the first minute", () -> hall.see(0, 0, 1, BOX));
        Check.same("the first minute", 0, hall.see(0, 0, 0, BOX));
        hall.pass(100);
        Check.argument(hall, "behind NOW", () -> hall.see(0, 0, 101, BOX));
        Check.same("NOW", 1, hall.see(0, 0, 100, BOX));
    }

    private static void notClosed() {
        GantryHall hall = Halls.at(2 * DAY - 1);
        Check.same("its first minute, open", 0, hall.see(0, 0, 0, BOX));
        Check.same("its last minute, open", 1, hall.see(0, 0, DAY - 1, BOX));
        hall.pass(1);
        Check.state(hall, "its first minute, CLOSED", () -> hall.see(0, 0, 0, BOX));
        Check.state(hall, "its last minute, CLOSED", () -> hall.see(0, 0, DAY - 1, BOX));
        Check.same("the next DAY", 2, hall.see(0, 0, DAY, BOX));
    }

    private static void sources() {
        Check.argumentRange(0, 2, Halls::told, (hall, source) -> hall.see(0, 0, 0, source));
        GantryHall hall = Halls.told();
        for (int source = 0; source < 3; source++) {
            hall.see(0, 0, 0, source);
            Check.same("SOURCE", source, hall.ofSighting(source, 3));
        }
    }

    private static void corrected() {
        GantryHall hall = Halls.told();
        hall.see(0, 0, 0, CAMERA);
        hall.see(0, 0, 0, BOX);
        hall.see(0, 0, 0, RADIO);
        Check.state(hall, "by BOX", () -> hall.correct(1, 1));
        Check.state(hall, "by RADIO", () -> hall.correct(2, 1));
        Check.same("by CAMERA", 0, hall.correct(0, 1));
        Check.same("of another VEHICLE then", 1, hall.ofSighting(0, 0));
        Check.same("one less there", 2, hall.ofPassage(0, 0, 0, SIGHTINGS));
        Check.same("one more here", 1, hall.passages(1, 0));
    }

    private static void upTo15() {
        GantryHall hall = Halls.at(DAY + 500);
        hall.see(0, 0, DAY + 100, BOX);
        hall.see(0, 0, DAY + 115, BOX);
        hall.see(1, 0, DAY + 100, BOX);
        hall.see(1, 0, DAY + 116, BOX);
        hall.see(2, 0, DAY + 100, BOX);
        hall.see(2, 0, DAY + 100, BOX);
        Check.same("15 later", 1, hall.passages(0, 1));
        Check.same("16 later", 2, hall.passages(1, 1));
        Check.same("of the same minute", 1, hall.passages(2, 1));
        Check.same("both", 2, hall.ofPassage(2, 1, 0, SIGHTINGS));
    }

    private static void apart() {
        GantryHall hall = Halls.at(2 * DAY);
        hall.see(0, 0, 2 * DAY - 1, BOX);
        hall.see(0, 0, 2 * DAY, BOX);
        hall.see(0, 1, 2 * DAY, BOX);
        hall.see(1, 0, 2 * DAY, BOX);
        Check.same("over midnight they are two: ahead", 1, hall.passages(0, 1));
        Check.same("behind, on each SEGMENT one", 2, hall.passages(0, 2));
        Check.same("on SEGMENT 0", 1, hall.ofPassage(0, 2, 0, SIGHTINGS));
        Check.same("on SEGMENT 1", 1, hall.ofPassage(0, 2, 1, SIGHTINGS));
        Check.same("of the other VEHICLE", 1, hall.ofPassage(1, 2, 0, SIGHTINGS));
    }

    private static void nextOne() {
        GantryHall hall = Halls.at(DAY + 500);
        // Each is told behind a later one.
        int[] minutes = {147, 132, 131, 116, 115, 100};
        for (int minute : minutes) {
            hall.see(0, 0, DAY + minute, BOX);
        }
        int[] begin = {100, 116, 132};
        Check.same("how many", 3, hall.passages(0, 1));
        for (int k = 0; k < 3; k++) {
            Check.same("begin of " + k, DAY + begin[k], hall.ofPassage(0, 1, k, MINUTE));
            Check.same("both of " + k, 2, hall.ofPassage(0, 1, k, SIGHTINGS));
        }
        hall.see(0, 0, DAY + 99, BOX);
        // 99 to 114, 115 to 130, 131 to 146, 147: one earlier SIGHTING parts all of them anew.
        Check.same("how many then", 4, hall.passages(0, 1));
        Check.same("the last one then", DAY + 147, hall.ofPassage(0, 1, 3, MINUTE));
    }

    private static void earliest() {
        GantryHall hall = Halls.at(DAY + 500);
        hall.see(0, 0, DAY + 110, BOX);
        Check.same("of one", DAY + 110, hall.ofPassage(0, 1, 0, MINUTE));
        hall.see(0, 0, DAY + 115, BOX);
        Check.same("a later one", DAY + 110, hall.ofPassage(0, 1, 0, MINUTE));
        hall.see(0, 0, DAY + 100, CAMERA);
        Check.same("an earlier one", DAY + 100, hall.ofPassage(0, 1, 0, MINUTE));
        hall.correct(2, 1);
        Check.same("the earlier one is gone", DAY + 110, hall.ofPassage(0, 1, 0, MINUTE));
    }

    private static void sureBySource() {
        int[] reasons = {0, 0, 1};
        for (int source = BOX; source <= CAMERA; source++) {
            GantryHall hall = Halls.at(DAY);
            hall.see(0, 0, DAY, source);
            Check.same("one of SOURCE " + source, reasons[source], hall.ofPassage(0, 1, 0, REASON));
            hall.see(1, 0, DAY, CAMERA);
            hall.see(1, 0, DAY, source);
            Check.same("with one by CAMERA", 0, hall.ofPassage(1, 1, 0, REASON));
        }
    }

    private static void sureByTwo() {
        GantryHall hall = Halls.at(DAY + 500);
        hall.see(0, 0, DAY + 100, CAMERA);
        Check.same("one", 1, hall.ofPassage(0, 1, 0, REASON));
        hall.see(0, 0, DAY + 116, CAMERA);
        Check.same("two apart: the first", 1, hall.ofPassage(0, 1, 0, REASON));
        Check.same("two apart: the second", 1, hall.ofPassage(0, 1, 1, REASON));
        hall.see(1, 0, DAY + 100, CAMERA);
        hall.see(1, 0, DAY + 115, CAMERA);
        Check.same("two", 0, hall.ofPassage(1, 1, 0, REASON));
        hall.see(1, 0, DAY + 115, CAMERA);
        Check.same("three", 0, hall.ofPassage(1, 1, 0, REASON));
    }

    private static void is(GantryHall hall, int k, int segment, int minute, int sightings) {
        Check.same("SEGMENT of " + k, segment, hall.ofPassage(0, 1, k, SEGMENT));
        Check.same("minute of " + k, DAY + minute, hall.ofPassage(0, 1, k, MINUTE));
        Check.same("SIGHTINGS of " + k, sightings, hall.ofPassage(0, 1, k, SIGHTINGS));
    }

    /** VEHICLE 0 is seen on one SEGMENT, and on another one in a later minute. */
    private static GantryHall seenTwice(int first, int firstMinute, int second, int secondMinute) {
        GantryHall hall = Halls.at(2 * DAY - 1);
        hall.see(0, second, DAY + secondMinute, BOX);
        hall.see(0, first, DAY + firstMinute, BOX);
        return hall;
    }

    private static void sureOrder() {
        GantryHall hall = seenTwice(1, 100, 0, 101);
        is(hall, 0, 1, 100, 1);
        is(hall, 1, 0, 101, 1);
        GantryHall same = seenTwice(0, 100, 3, 100);
        is(same, 0, 0, 100, 1);
        is(same, 1, 3, 100, 1);
        // By SEGMENT 0 ends at KNOT 1, where 1 begins; the other way round 1 would end at 2.
        GantryHall ways = seenTwice(0, 100, 1, 100);
        ways.segment(2, 0, 1, 0);
        Check.same("nothing is between these", 2, ways.passages(0, 1));
    }

    private static void otherKnot() {
        Check.same("from the same KNOT", 2, seenTwice(0, 100, 1, 110).passages(0, 1));
        GantryHall hall = seenTwice(0, 100, 2, 110);
        Check.same("from another KNOT", 3, hall.passages(0, 1));
        is(hall, 1, 1, 105, 0);
        // The one ahead of SEGMENT 2 is on 1 then, though that on 0 ended elsewhere.
        hall.see(0, 1, DAY + 108, BOX);
        Check.same("the one just ahead", 3, hall.passages(0, 1));
        is(hall, 1, 1, 108, 1);
    }

    private static void atMost180() {
        Check.same("180", 3, seenTwice(0, 100, 2, 280).passages(0, 1));
        Check.same("181", 2, seenTwice(0, 100, 2, 281).passages(0, 1));
        Check.same("0", 3, seenTwice(0, 100, 2, 100).passages(0, 1));
        GantryHall hall = Halls.at(2 * DAY);
        hall.see(0, 0, 2 * DAY - 1, BOX);
        hall.see(0, 2, 2 * DAY, BOX);
        Check.same("over midnight: ahead", 1, hall.passages(0, 1));
        Check.same("over midnight: behind", 1, hall.passages(0, 2));
    }

    private static void justOne() {
        Check.same("none", 2, seenTwice(0, 100, 3, 110).passages(0, 1));
        GantryHall hall = seenTwice(0, 100, 2, 110);
        Check.same("one", 3, hall.passages(0, 1));
        hall.segment(1, 2, 1, 3);
        Check.same("two", 2, hall.passages(0, 1));
        hall.segment(1, 2, 1, 3);
        Check.same("three", 2, hall.passages(0, 1));
        GantryHall last = seenTwice(0, 100, 3, 110);
        last.segment(1, 4, 1, 3);
        Check.same("one that was told last", 3, last.passages(0, 1));
        is(last, 1, 4, 105, 0);
    }

    private static void shutOrNot() {
        GantryHall hall = seenTwice(0, 100, 2, 110);
        hall.shut(1, 0, 60000);
        is(hall, 1, 1, 105, 0);
        hall.segment(1, 2, 1, 3);
        hall.shut(4, 0, 60000);
        Check.same("two that are SHUT are two", 2, hall.passages(0, 1));
    }

    private static void thatWay() {
        // From where 2 ended, KNOT 3, to where 0 begins, KNOT 0.
        GantryHall hall = seenTwice(2, 100, 0, 110);
        Check.same("none", 2, hall.passages(0, 1));
        hall.segment(0, 3, 1, 0);
        Check.same("the other way round", 2, hall.passages(0, 1));
        hall.segment(3, 1, 1, 0);
        hall.segment(2, 0, 1, 0);
        Check.same("to another KNOT, from another KNOT", 2, hall.passages(0, 1));
        hall.segment(3, 0, 1, 0);
        Check.same("that way", 3, hall.passages(0, 1));
        is(hall, 1, 7, 105, 0);
    }

    private static void halfOfBoth() {
        is(seenTwice(0, 100, 2, 110), 1, 1, 105, 0);
        is(seenTwice(0, 100, 2, 101), 1, 1, 100, 0);
        is(seenTwice(0, 101, 2, 102), 1, 1, 101, 0);
        is(seenTwice(0, 100, 2, 100), 1, 1, 100, 0);
        is(seenTwice(0, 0, 2, 180), 1, 1, 90, 0);
        // By the earliest SIGHTING of each.
        GantryHall hall = seenTwice(0, 100, 2, 150);
        hall.see(0, 0, DAY + 115, BOX);
        is(hall, 1, 1, 125, 0);
    }

    private static void inferredBetween() {
        GantryHall hall = seenTwice(0, 100, 2, 101);
        // INFERRED in minute 100, as SEGMENT 0, and ahead of the second one.
        is(hall, 0, 0, 100, 1);
        is(hall, 1, 1, 100, 0);
        is(hall, 2, 2, 101, 1);
        hall.segment(3, 0, 1, 0);
        hall.see(0, 0, DAY + 200, BOX);
        is(hall, 3, 4, 150, 0);
        is(hall, 4, 0, 200, 1);
        // Of the same minute as both, it is between them all the same, whatever its SEGMENT.
        GantryHall same = new GantryHall();
        same.segment(0, 1, 1, 0);
        same.segment(2, 3, 1, 0);
        same.segment(1, 2, 1, 0);
        same.vehicle(0, 0, 0);
        same.pass(DAY);
        same.see(0, 0, DAY, BOX);
        same.see(0, 1, DAY, BOX);
        is(same, 0, 0, 0, 1);
        is(same, 1, 2, 0, 0);
        is(same, 2, 1, 0, 1);
    }

    private static void doubtfulBehind() {
        GantryHall hall = seenTwice(0, 100, 2, 110);
        hall.see(0, 2, DAY + 50, CAMERA);
        hall.see(0, 1, DAY + 50, CAMERA);
        hall.see(0, 3, DAY + 40, CAMERA);
        Check.same("how many", 6, hall.passages(0, 1));
        is(hall, 0, 0, 100, 1);
        is(hall, 1, 1, 105, 0);
        is(hall, 2, 2, 110, 1);
        is(hall, 3, 3, 40, 1);
        is(hall, 4, 1, 50, 1);
        is(hall, 5, 2, 50, 1);
        // A DOUBTFUL one between two SURE ones neither parts nor joins them.
        hall.see(0, 1, DAY + 105, CAMERA);
        is(hall, 1, 1, 105, 0);
        is(hall, 6, 1, 105, 1);
        Check.same("none is INFERRED for a DOUBTFUL one", 7, hall.passages(0, 1));
    }

    private PassageEdges() {
    }
}
