/** The checksum of promise 29, by the other calls. */
final class DigestByAsking {
    private final Object hall;
    private long d = 4805;

    private DigestByAsking(Object hall) {
        this.hall = hall;
    }

    static long of(Object hall) {
        DigestByAsking one = new DigestByAsking(hall);
        one.addAll();
        return one.d;
    }

    private void add(String name, Object... arguments) {
        d = d * 31 + Faces.ask(hall, name, arguments);
    }

    private int many(int what) {
        return (int) Faces.ask(hall, "many", what);
    }

    private void addAll() {
        for (int what = 0; what <= 14; what++) {
            add("many", what);
        }
        for (int k = 0; k < many(1); k++) {
            for (int what = 0; what <= 4; what++) {
                add("ofSegment", k, what);
            }
        }
        for (int k = 0; k < 4; k++) {
            for (int what = 0; what <= 3; what++) {
                add("ofOwner", k, what);
            }
        }
        for (int k = 0; k < many(3); k++) {
            for (int what = 0; what <= 4; what++) {
                add("ofSighting", k, what);
            }
        }
        for (int k = 0; k < many(2); k++) {
            addVehicle(k);
        }
    }

    private void addVehicle(int vehicle) {
        int today = many(0) / 1440;
        for (int what = 0; what <= 7; what++) {
            add("ofVehicle", vehicle, what);
        }
        addDay(vehicle, today);
        if (today > 0) {
            addDay(vehicle, today - 1);
        }
        add("cheapest", vehicle, 0, 1);
        add("cheapest", vehicle, 3, 5);
        add("wouldSave", vehicle);
        for (int k = 0; k < many(1); k++) {
            add("toll", vehicle, k, many(0));
        }
    }

    private void addDay(int vehicle, int day) {
        add("journeys", vehicle, day);
        add("passages", vehicle, day);
        long passages = Faces.ask(hall, "passages", vehicle, day);
        for (int k = 0; k < passages; k++) {
            for (int what = 0; what <= 4; what++) {
                add("ofPassage", vehicle, day, k, what);
            }
        }
    }
}
