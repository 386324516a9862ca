/** The checksum of promise 29, by the other calls. */
final class DigestByAsking {
    private final GantryHall hall;
    private long d = 4805;

    private DigestByAsking(GantryHall hall) {
        this.hall = hall;
    }

    static long of(GantryHall hall) {
        DigestByAsking one = new DigestByAsking(hall);
        one.addAll();
        return one.d;
    }

    private void add(long v) {
        d = d * 31 + v;
    }

    private void addAll() {
        for (int what = 0; what <= 14; what++) {
            add(hall.many(what));
        }
        for (int k = 0; k < hall.many(1); k++) {
            for (int what = 0; what <= 4; what++) {
                add(hall.ofSegment(k, what));
            }
        }
        for (int k = 0; k < 4; k++) {
            for (int what = 0; what <= 3; what++) {
                add(hall.ofOwner(k, what));
            }
        }
        for (int k = 0; k < hall.many(3); k++) {
            for (int what = 0; what <= 4; what++) {
                add(hall.ofSighting(k, what));
            }
        }
        for (int k = 0; k < hall.many(2); k++) {
            addVehicle(k);
        }
    }

    private void addVehicle(int vehicle) {
        int today = hall.many(0) / 1440;
        for (int what = 0; what <= 7; what++) {
            add(hall.ofVehicle(vehicle, what));
        }
        addDay(vehicle, today);
        if (today > 0) {
            addDay(vehicle, today - 1);
        }
        add(hall.cheapest(vehicle, 0, 1));
        add(hall.cheapest(vehicle, 3, 5));
        add(hall.wouldSave(vehicle));
        for (int k = 0; k < hall.many(1); k++) {
            add(hall.toll(vehicle, k, hall.many(0)));
        }
    }

    private void addDay(int vehicle, int day) {
        add(hall.journeys(vehicle, day));
        add(hall.passages(vehicle, day));
        for (int k = 0; k < hall.passages(vehicle, day); k++) {
            for (int what = 0; what <= 4; what++) {
                add(hall.ofPassage(vehicle, day, k, what));
            }
        }
    }
}
