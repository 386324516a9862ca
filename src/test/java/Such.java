/** That there is no other VEHICLE, SEGMENT, OWNER or KNOT than the document says. */
final class Such {
    /** Only the three VEHICLES that were told; none, if none was told; all eight, if all were. */
    static void vehicles(Check.With call) {
        Check.indexRange(0, 2, Halls::told, call);
        GantryHall without = new GantryHall();
        without.segment(0, 1, 1, 0);
        Check.index(without, "without VEHICLES", () -> call.run(without, 0));
        Check.indexRange(0, 7, Halls::many, call);
    }

    /** Only the four SEGMENTS that were told; none, if none was told; all twelve, if all were. */
    static void segments(Check.With call) {
        Check.indexRange(0, 3, Halls::told, call);
        GantryHall without = new GantryHall();
        without.vehicle(0, 0, 0);
        Check.index(without, "without SEGMENTS", () -> call.run(without, 0));
        Check.indexRange(0, 11, Halls::many, call);
    }

    static void owners(Check.With call) {
        Check.indexRange(0, 3, Halls::told, call);
    }

    static void knots(Check.With call) {
        Check.indexRange(0, 7, Halls::told, call);
    }

    /** Only the questions up to that one. */
    static void whats(int most, Check.With call) {
        Check.argumentRange(0, most, Such::seen, call);
    }

    /** Any DAY, however far, that is not below 0. */
    static void days(Check.With call) {
        Check.argumentRange(0, Integer.MAX_VALUE, Such::seen, call);
    }

    /** VEHICLE 0 is seen on SEGMENT 0 on DAY 0, and that is all. */
    static GantryHall seen() {
        GantryHall hall = Halls.told();
        hall.see(0, 0, 0, 0);
        return hall;
    }

    private Such() {
    }
}
