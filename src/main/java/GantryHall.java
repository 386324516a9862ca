import java.util.ArrayList;
import java.util.Arrays;

/** Tolls over many roads, of several owners. */
public final class GantryHall {
    private static final int NONE = -1;

    private static final int HOUR = 60;
    private static final int DAY = 1440;
    private static final int LAST_MINUTE = 60000;
    private static final int LAST_TOLL_MINUTE = 72000;
    private static final int LAST_TOLD_DAY = 50;
    private static final int MOST_MINUTES_TO_PASS = 3000;
    private static final int DAYS_TO_CLOSING = 2;
    private static final int DAYS_TO_ERASING = 5;

    private static final int KNOTS = 8;
    private static final int OWNERS = 4;
    private static final int CLASSES = 3;
    private static final int MOST_SEGMENTS = 12;
    private static final int MOST_SHUTS = 8;
    private static final int MOST_TARIFFS = 16;
    private static final int MOST_HOLIDAYS = 10;
    private static final int MOST_VEHICLES = 8;
    private static final int MOST_SIGHTINGS = 60;

    private static final int LEAST_CAP = 50;
    private static final int MOST_CAP = 999;
    private static final int FIRST_CAP = 300;

    private static final int PREPAID = 0;
    private static final int POST = 1;
    private static final int GUEST = 2;
    private static final int POST_LIMIT = -500;
    private static final int GUEST_EXTRA = 10;

    private static final int RADIO = 1;
    private static final int CAMERA = 2;

    private static final int MINUTES_OF_PASSAGE = 15;
    private static final int MINUTES_TO_INFER = 180;
    private static final int MINUTES_OF_JOURNEY = 120;

    private static final int REASON_TOLL = 0;
    private static final int REASON_DOUBTFUL = 1;
    private static final int REASON_EXEMPT = 2;
    private static final int REASON_SHUT = 3;
    private static final int REASON_CAPPED = 4;

    private static final long FIRST_DIGEST = 4805L;

    private final ArrayList<Segment> segments = new ArrayList<Segment>();
    private final ArrayList<Vehicle> vehicles = new ArrayList<Vehicle>();
    private final ArrayList<Sighting> sightings = new ArrayList<Sighting>();
    private final Tariffs tariffs = new Tariffs();
    private final Ledger ledger = new Ledger();
    private final DayBook book = new DayBook();
    // The least sum to each KNOT; kept, so that no call needs a new row.
    private final int[] reach = new int[KNOTS];
    private int shuts;
    private int now;
    private int capNow = FIRST_CAP;
    private int listed;
    private int alarms;
    private int catches;
    private int erased;

    public GantryHall() {
    }

    // ---- what is told

    public int segment(int from, int to, int length, int owner)
            throws IndexOutOfBoundsException, IllegalArgumentException, IllegalStateException {
        needIndex(isKnot(from) && isKnot(to) && isOwner(owner));
        needArgument(from != to && isIn(length, 1, 60));
        needState(segments.size() < MOST_SEGMENTS);
        int number = segments.size();
        segments.add(new Segment(number, from, to, length, owner));
        return number;
    }

    public int shut(int segment, int from, int to)
            throws IndexOutOfBoundsException, IllegalArgumentException, IllegalStateException {
        needIndex(isSegment(segment));
        needArgument(isIn(from, 0, LAST_MINUTE) && isIn(to, from, LAST_MINUTE));
        needState(shuts < MOST_SHUTS);
        segments.get(segment).addShutTime(from, to);
        shuts++;
        return shuts;
    }

    public int tariff(int owner, int rate, int step, int peak, int day)
            throws IndexOutOfBoundsException, IllegalArgumentException, IllegalStateException {
        needIndex(isOwner(owner));
        needArgument(isIn(rate, 1, 30) && isIn(step, 0, 9) && isIn(peak, 0, 100) && isDayToTell(day));
        needState(tariffs.size() < MOST_TARIFFS);
        tariffs.addTariff(new Tariff(owner, rate, step, peak, day));
        return tariffs.size();
    }

    public int holiday(int day) throws IllegalArgumentException, IllegalStateException {
        needArgument(isDayToTell(day) && !tariffs.isHoliday(day));
        needState(tariffs.holidayCount < MOST_HOLIDAYS);
        tariffs.addHoliday(day);
        return tariffs.holidayCount;
    }

    public int cap(int cap) throws IllegalArgumentException {
        needArgument(isIn(cap, LEAST_CAP, MOST_CAP));
        int before = capNow;
        capNow = cap;
        return before;
    }

    public int vehicle(int rank, int emission, int account)
            throws IllegalArgumentException, IllegalStateException {
        needArgument(isIn(rank, 0, CLASSES - 1) && isIn(emission, 0, 3) && isIn(account, PREPAID, GUEST));
        needState(vehicles.size() < MOST_VEHICLES);
        int number = vehicles.size();
        vehicles.add(new Vehicle(number, rank, emission, account));
        return number;
    }

    public boolean exempt(int vehicle, int owner, boolean is) throws IndexOutOfBoundsException {
        needIndex(isVehicle(vehicle) && isOwner(owner));
        Vehicle one = vehicles.get(vehicle);
        boolean was = one.isExempt(owner);
        one.setExempt(owner, is);
        return was;
    }

    public int pay(int vehicle, int coins) throws IndexOutOfBoundsException, IllegalArgumentException {
        needIndex(isVehicle(vehicle));
        needArgument(isIn(coins, 1, 2000));
        Vehicle one = vehicles.get(vehicle);
        one.balance += coins;
        return one.balance;
    }

    // ---- what comes

    public int see(int vehicle, int segment, int minute, int source)
            throws IndexOutOfBoundsException, IllegalArgumentException, IllegalStateException {
        needIndex(isVehicle(vehicle) && isSegment(segment));
        needArgument(isIn(minute, 0, now) && isIn(source, 0, CAMERA));
        needState(!isClosed(minute / DAY) && sightings.size() < MOST_SIGHTINGS);
        int number = sightings.size();
        sightings.add(new Sighting(vehicles.get(vehicle), segments.get(segment), minute, source));
        if (source == RADIO && hasBit(listed, vehicle)) {
            alarms++;
        }
        return number;
    }

    public int correct(int sighting, int vehicle) throws IndexOutOfBoundsException, IllegalStateException {
        needIndex(isSighting(sighting) && isVehicle(vehicle));
        Sighting one = sightings.get(sighting);
        needState(one.source == CAMERA && !one.isErased);
        int before = one.vehicle.number;
        one.vehicle = vehicles.get(vehicle);
        return before;
    }

    public int control(int vehicle, int segment, int minute)
            throws IndexOutOfBoundsException, IllegalArgumentException, IllegalStateException {
        needIndex(isVehicle(vehicle) && isSegment(segment));
        needArgument(isIn(minute, 0, now));
        needState(!isClosed(minute / DAY));
        Vehicle one = vehicles.get(vehicle);
        Segment on = segments.get(segment);
        if (hasPassed(one, on, minute)) {
            return NONE;
        }
        int fine = 2 * tollOf(one, on, minute);
        one.balance -= fine;
        one.fines += fine;
        ledger.hall += fine;
        catches++;
        return fine;
    }

    public int dispute(int vehicle, int day) throws IndexOutOfBoundsException, IllegalArgumentException {
        needIndex(isVehicle(vehicle));
        needArgument(day >= 0 && isClosed(day) && today() - day < DAYS_TO_ERASING);
        Vehicle one = vehicles.get(vehicle);
        book.gather(sightings, segments, one, day);
        book.charge(one, one.rank, ledger.capOfClosing(day), tariffs);
        int back = 0;
        for (int owner = 0; owner < OWNERS; owner++) {
            back += ledger.giveBack(day, vehicle, owner, book.dueTo(owner));
        }
        one.balance += back;
        one.taken -= back;
        return back;
    }

    public int pass(int minutes) throws IllegalArgumentException, IllegalStateException {
        needArgument(isIn(minutes, 1, MOST_MINUTES_TO_PASS));
        needState(now + minutes <= LAST_MINUTE);
        int then = now + minutes;
        int bills = 0;
        for (int day = today() + 1; day <= then / DAY; day++) {
            bills += closeDay(day - DAYS_TO_CLOSING);
            listed = blockedSet();
            eraseDay(day - DAYS_TO_ERASING);
        }
        now = then;
        return bills;
    }

    // ---- what is asked

    public int ofSegment(int segment, int what) throws IndexOutOfBoundsException, IllegalArgumentException {
        needIndex(isSegment(segment));
        needArgument(isIn(what, 0, 4));
        Segment one = segments.get(segment);
        switch (what) {
            case 0:
                return one.from;
            case 1:
                return one.to;
            case 2:
                return one.length;
            case 3:
                return one.owner;
            default:
                return one.isShut(now) ? 1 : 0;
        }
    }

    public int ofVehicle(int vehicle, int what) throws IndexOutOfBoundsException, IllegalArgumentException {
        needIndex(isVehicle(vehicle));
        needArgument(isIn(what, 0, 7));
        Vehicle one = vehicles.get(vehicle);
        switch (what) {
            case 0:
                return one.rank;
            case 1:
                return one.emission;
            case 2:
                return one.account;
            case 3:
                return one.balance;
            case 4:
                return one.isBlocked() ? 1 : 0;
            case 5:
                return one.exemptions;
            case 6:
                return one.taken;
            default:
                return one.fines;
        }
    }

    public int ofSighting(int sighting, int what) throws IndexOutOfBoundsException, IllegalArgumentException {
        needIndex(isSighting(sighting));
        needArgument(isIn(what, 0, 4));
        Sighting one = sightings.get(sighting);
        if (what == 4) {
            return one.isErased ? 1 : 0;
        }
        if (one.isErased) {
            return NONE;
        }
        switch (what) {
            case 0:
                return one.vehicle.number;
            case 1:
                return one.segment.number;
            case 2:
                return one.minute;
            default:
                return one.source;
        }
    }

    public int ofOwner(int owner, int what) throws IndexOutOfBoundsException, IllegalArgumentException {
        needIndex(isOwner(owner));
        needArgument(isIn(what, 0, 3));
        if (what == 0) {
            return ledger.coinsOf(owner);
        }
        Tariff tariff = tariffs.inForce(owner, today());
        if (tariff == null) {
            return 0;
        }
        switch (what) {
            case 1:
                return tariff.rate;
            case 2:
                return tariff.step;
            default:
                return tariff.peak;
        }
    }

    public int passages(int vehicle, int day) throws IndexOutOfBoundsException, IllegalArgumentException {
        needIndex(isVehicle(vehicle));
        needArgument(day >= 0);
        book.gather(sightings, segments, vehicles.get(vehicle), day);
        return book.size();
    }

    public int ofPassage(int vehicle, int day, int k, int what)
            throws IndexOutOfBoundsException, IllegalArgumentException {
        needIndex(isVehicle(vehicle) && day >= 0);
        Vehicle one = vehicles.get(vehicle);
        book.gather(sightings, segments, one, day);
        needIndex(isIn(k, 0, book.size() - 1));
        needArgument(isIn(what, 0, 4));
        book.charge(one, one.rank, capNow, tariffs);
        return book.fact(k, what);
    }

    public int journeys(int vehicle, int day) throws IndexOutOfBoundsException, IllegalArgumentException {
        needIndex(isVehicle(vehicle));
        needArgument(day >= 0);
        book.gather(sightings, segments, vehicles.get(vehicle), day);
        return book.journeyCount();
    }

    public int many(int what) throws IllegalArgumentException {
        needArgument(isIn(what, 0, 14));
        switch (what) {
            case 0:
                return now;
            case 1:
                return segments.size();
            case 2:
                return vehicles.size();
            case 3:
                return sightings.size();
            case 4:
                return erased;
            case 5:
                return tariffs.size();
            case 6:
                return tariffs.holidayCount;
            case 7:
                return capNow;
            case 8:
                return ledger.hall;
            case 9:
                return alarms;
            case 10:
                return catches;
            case 11:
                return ledger.taken - ledger.givenBack;
            case 12:
                return ledger.givenBack;
            case 13:
                return listed;
            default:
                return blockedSet();
        }
    }

    public double meanDue(int day) throws IllegalArgumentException {
        needArgument(day >= 0);
        int sum = 0;
        int count = 0;
        for (int i = 0; i < vehicles.size(); i++) {
            Vehicle one = vehicles.get(i);
            book.gather(sightings, segments, one, day);
            // What is DUE of the DOUBTFUL ones is 0, so the BILL is the sum of the others.
            sum += book.charge(one, one.rank, capNow, tariffs);
            count += book.certain;
        }
        return count > 0 ? (double) sum / (double) count : 0.0;
    }

    // ---- what would be (nothing is changed)

    public int toll(int vehicle, int segment, int minute)
            throws IndexOutOfBoundsException, IllegalArgumentException {
        needIndex(isVehicle(vehicle) && isSegment(segment));
        needArgument(isIn(minute, 0, LAST_TOLL_MINUTE));
        return tollOf(vehicles.get(vehicle), segments.get(segment), minute);
    }

    public int bill(int vehicle, int day, int cap) throws IndexOutOfBoundsException, IllegalArgumentException {
        needIndex(isVehicle(vehicle));
        needArgument(day >= 0 && isIn(cap, LEAST_CAP, MOST_CAP));
        Vehicle one = vehicles.get(vehicle);
        book.gather(sightings, segments, one, day);
        return book.charge(one, one.rank, cap, tariffs);
    }

    public int cheapest(int vehicle, int from, int to) throws IndexOutOfBoundsException {
        needIndex(isVehicle(vehicle) && isKnot(from) && isKnot(to));
        Arrays.fill(reach, NONE);
        setReach(from, 0);
        boolean changed = true;
        for (int round = 0; round < KNOTS && changed; round++) {
            changed = extendWays(vehicles.get(vehicle));
        }
        return reachOf(to);
    }

    public int bestMinute(int vehicle, int segment) throws IndexOutOfBoundsException {
        needIndex(isVehicle(vehicle) && isSegment(segment));
        Vehicle one = vehicles.get(vehicle);
        Segment on = segments.get(segment);
        boolean isFree = one.isExempt(on.owner);
        int price = 0;
        int best = now;
        int least = 0;
        for (int minute = now; minute < now + DAY; minute++) {
            // Within one HOUR the PRICE stays the same, so it is not made for each minute.
            if (minute == now || minute % HOUR == 0) {
                price = tariffs.price(on, one.rank, one.emission, minute);
            }
            int cost = isFree || on.isShut(minute) ? 0 : price;
            if (minute == now || cost < least) {
                least = cost;
                best = minute;
            }
        }
        return best;
    }

    public int wouldSave(int vehicle) throws IndexOutOfBoundsException {
        needIndex(isVehicle(vehicle));
        Vehicle one = vehicles.get(vehicle);
        book.gather(sightings, segments, one, today());
        int present = book.charge(one, one.rank, capNow, tariffs);
        int set = 0;
        for (int rank = 0; rank < CLASSES; rank++) {
            if (book.charge(one, rank, capNow, tariffs) < present) {
                set |= 1 << rank;
            }
        }
        return set;
    }

    public long digest() {
        long d = FIRST_DIGEST;
        for (int what = 0; what <= 14; what++) {
            d = fold(d, many(what));
        }
        for (int i = 0; i < segments.size(); i++) {
            for (int what = 0; what <= 4; what++) {
                d = fold(d, ofSegment(i, what));
            }
        }
        for (int owner = 0; owner < OWNERS; owner++) {
            for (int what = 0; what <= 3; what++) {
                d = fold(d, ofOwner(owner, what));
            }
        }
        for (int i = 0; i < sightings.size(); i++) {
            for (int what = 0; what <= 4; what++) {
                d = fold(d, ofSighting(i, what));
            }
        }
        for (int i = 0; i < vehicles.size(); i++) {
            d = foldVehicle(d, vehicles.get(i));
        }
        return d;
    }

    // ---- helpers

    private static void needIndex(boolean holds) {
        if (!holds) {
            throw new IndexOutOfBoundsException("there is no such thing");
        }
    }

    private static void needArgument(boolean holds) {
        if (!holds) {
            throw new IllegalArgumentException("that is not allowed");
        }
    }

    private static void needState(boolean holds) {
        if (!holds) {
            throw new IllegalStateException("not now");
        }
    }

    private static boolean isIn(int number, int least, int most) {
        return number >= least && number <= most;
    }

    private static boolean isKnot(int knot) {
        return isIn(knot, 0, KNOTS - 1);
    }

    private static boolean isOwner(int owner) {
        return isIn(owner, 0, OWNERS - 1);
    }

    private static boolean hasBit(int set, int place) {
        return (set >> place & 1) == 1;
    }

    private static long fold(long d, int v) {
        return d * 31 + v;
    }

    private boolean isSegment(int segment) {
        return isIn(segment, 0, segments.size() - 1);
    }

    private boolean isVehicle(int vehicle) {
        return isIn(vehicle, 0, vehicles.size() - 1);
    }

    private boolean isSighting(int sighting) {
        return isIn(sighting, 0, sightings.size() - 1);
    }

    private boolean isDayToTell(int day) {
        return day > today() && day <= LAST_TOLD_DAY;
    }

    private int today() {
        return now / DAY;
    }

    private boolean isClosed(int day) {
        return day <= today() - DAYS_TO_CLOSING;
    }

    private int blockedSet() {
        int set = 0;
        for (int i = 0; i < vehicles.size(); i++) {
            if (vehicles.get(i).isBlocked()) {
                set |= 1 << i;
            }
        }
        return set;
    }

    private int tollOf(Vehicle vehicle, Segment segment, int minute) {
        if (vehicle.isExempt(segment.owner) || segment.isShut(minute)) {
            return 0;
        }
        return tariffs.price(segment, vehicle.rank, vehicle.emission, minute);
    }

    private boolean hasPassed(Vehicle vehicle, Segment segment, int minute) {
        int day = minute / DAY;
        book.gather(sightings, segments, vehicle, day);
        if (book.hasBegun(segment, minute)) {
            return true;
        }
        book.gather(sightings, segments, vehicle, day - 1);
        return book.hasBegun(segment, minute);
    }

    private int closeDay(int day) {
        if (day < 0) {
            return 0;
        }
        ledger.keepCap(day, capNow);
        int bills = 0;
        for (int i = 0; i < vehicles.size(); i++) {
            bills += takeBill(vehicles.get(i), day);
        }
        return bills;
    }

    private int takeBill(Vehicle vehicle, int day) {
        book.gather(sightings, segments, vehicle, day);
        int sum = book.charge(vehicle, vehicle.rank, capNow, tariffs);
        vehicle.balance -= sum;
        vehicle.taken += sum;
        for (int owner = 0; owner < OWNERS; owner++) {
            ledger.receive(day, vehicle.number, owner, book.dueTo(owner));
        }
        if (vehicle.account == GUEST && sum > 0) {
            vehicle.balance -= GUEST_EXTRA;
            ledger.hall += GUEST_EXTRA;
        }
        return sum;
    }

    private void eraseDay(int day) {
        for (int i = 0; i < sightings.size(); i++) {
            Sighting one = sightings.get(i);
            if (one.minute / DAY == day) {
                one.isErased = true;
                erased++;
            }
        }
    }

    private int reachOf(int knot) {
        return knot >= 0 && knot < reach.length ? reach[knot] : NONE;
    }

    private void setReach(int knot, int sum) {
        if (knot >= 0 && knot < reach.length) {
            reach[knot] = sum;
        }
    }

    private boolean extendWays(Vehicle vehicle) {
        boolean changed = false;
        for (int i = 0; i < segments.size(); i++) {
            Segment one = segments.get(i);
            int before = reachOf(one.from);
            if (before == NONE || one.isShut(now)) {
                continue;
            }
            int sum = before + tollOf(vehicle, one, now);
            if (reachOf(one.to) == NONE || sum < reachOf(one.to)) {
                setReach(one.to, sum);
                changed = true;
            }
        }
        return changed;
    }

    private long foldVehicle(long start, Vehicle one) {
        int vehicle = one.number;
        long d = start;
        for (int what = 0; what <= 7; what++) {
            d = fold(d, ofVehicle(vehicle, what));
        }
        d = foldDay(d, one, today());
        if (today() > 0) {
            d = foldDay(d, one, today() - 1);
        }
        d = fold(d, cheapest(vehicle, 0, 1));
        d = fold(d, cheapest(vehicle, 3, 5));
        d = fold(d, wouldSave(vehicle));
        for (int i = 0; i < segments.size(); i++) {
            d = fold(d, toll(vehicle, i, now));
        }
        return d;
    }

    // The book is made once for all that is asked of it, since making it is the dearest part.
    private long foldDay(long start, Vehicle one, int day) {
        book.gather(sightings, segments, one, day);
        book.charge(one, one.rank, capNow, tariffs);
        long d = fold(start, book.journeyCount());
        d = fold(d, book.size());
        for (int k = 0; k < book.size(); k++) {
            for (int what = 0; what <= 4; what++) {
                d = fold(d, book.fact(k, what));
            }
        }
        return d;
    }

    /** A SEGMENT with the times in which it is SHUT. */
    private static final class Segment {
        final int number;
        final int from;
        final int to;
        final int length;
        final int owner;
        private final int[] shutFrom = new int[MOST_SHUTS];
        private final int[] shutTo = new int[MOST_SHUTS];
        private int shutTimes;

        Segment(int number, int from, int to, int length, int owner) {
            this.number = number;
            this.from = from;
            this.to = to;
            this.length = length;
            this.owner = owner;
        }

        void addShutTime(int first, int last) {
            if (shutTimes < shutFrom.length && shutTimes < shutTo.length) {
                shutFrom[shutTimes] = first;
                shutTo[shutTimes] = last;
                shutTimes++;
            }
        }

        boolean isShut(int minute) {
            for (int i = 0; i < shutTimes && i < shutFrom.length && i < shutTo.length; i++) {
                if (minute >= shutFrom[i] && minute <= shutTo[i]) {
                    return true;
                }
            }
            return false;
        }
    }

    private static final class Tariff {
        final int owner;
        final int rate;
        final int step;
        final int peak;
        final int firstDay;

        Tariff(int owner, int rate, int step, int peak, int firstDay) {
            this.owner = owner;
            this.rate = rate;
            this.step = step;
            this.peak = peak;
            this.firstDay = firstDay;
        }
    }

    /** All TARIFFS and HOLIDAYS, and the PRICES that follow from them. */
    private static final class Tariffs {
        private final ArrayList<Tariff> tariffs = new ArrayList<Tariff>();
        private final boolean[] holidays = new boolean[LAST_TOLD_DAY + 1];
        int holidayCount;

        int size() {
            return tariffs.size();
        }

        void addTariff(Tariff tariff) {
            tariffs.add(tariff);
        }

        void addHoliday(int day) {
            if (day >= 0 && day < holidays.length) {
                holidays[day] = true;
                holidayCount++;
            }
        }

        boolean isHoliday(int day) {
            return day >= 0 && day < holidays.length && holidays[day];
        }

        /** The TARIFF of that OWNER on that DAY; null, if all is free there. */
        Tariff inForce(int owner, int day) {
            for (int i = tariffs.size() - 1; i >= 0; i--) {
                Tariff tariff = tariffs.get(i);
                if (tariff.owner == owner && tariff.firstDay <= day) {
                    return tariff;
                }
            }
            return null;
        }

        int price(Segment segment, int rank, int emission, int minute) {
            int day = minute / DAY;
            Tariff tariff = inForce(segment.owner, day);
            if (tariff == null) {
                return 0;
            }
            int basic = segment.length * (tariff.rate + tariff.step * rank);
            int price = basic * (10 + emission) / 10;
            if (isPeakHour(minute) && !isHoliday(day)) {
                price += price * tariff.peak / 100;
            }
            return price;
        }

        private static boolean isPeakHour(int minute) {
            int hour = minute / HOUR % 24;
            return hour >= 7 && hour <= 9 || hour >= 16 && hour <= 18;
        }
    }

    private static final class Vehicle {
        final int number;
        final int rank;
        final int emission;
        final int account;
        int balance;
        int exemptions;
        int taken;
        int fines;

        Vehicle(int number, int rank, int emission, int account) {
            this.number = number;
            this.rank = rank;
            this.emission = emission;
            this.account = account;
        }

        boolean isBlocked() {
            return account == PREPAID && balance < 0 || account == POST && balance < POST_LIMIT;
        }

        boolean isExempt(int owner) {
            return hasBit(exemptions, owner);
        }

        void setExempt(int owner, boolean is) {
            int bit = 1 << owner;
            exemptions = is ? exemptions | bit : exemptions & ~bit;
        }
    }

    private static final class Sighting {
        Vehicle vehicle;
        final Segment segment;
        final int minute;
        final int source;
        boolean isErased;

        Sighting(Vehicle vehicle, Segment segment, int minute, int source) {
            this.vehicle = vehicle;
            this.segment = segment;
            this.minute = minute;
            this.source = source;
        }

        boolean isOf(Vehicle other, int day) {
            return vehicle == other && minute / DAY == day && !isErased;
        }

        boolean isAheadOf(Sighting other) {
            return minute < other.minute || minute == other.minute && segment.number < other.segment.number;
        }
    }

    private static final class Passage {
        Segment segment;
        int minute;
        int sightings;
        boolean isDoubtful;
        int reason;
        int due;

        Passage(Segment segment, int minute) {
            this.segment = segment;
            this.minute = minute;
        }

        /** Makes it a new one, without SIGHTINGS yet. */
        void restart(Segment on, int at) {
            segment = on;
            minute = at;
            sightings = 0;
            isDoubtful = false;
            reason = REASON_TOLL;
            due = 0;
        }

        void join(Sighting sighting) {
            sightings++;
            isDoubtful = sightings == 1 && sighting.source == CAMERA;
        }
    }

    /** The PASSAGES of one VEHICLE on one DAY, made anew each time they are gathered. */
    private static final class DayBook {
        private final ArrayList<Sighting> picked = new ArrayList<Sighting>();
        private final ArrayList<Passage> joined = new ArrayList<Passage>();
        private final ArrayList<Passage> rows = new ArrayList<Passage>();
        // PASSAGES are used again, so that gathering them takes no new room.
        private final ArrayList<Passage> pool = new ArrayList<Passage>();
        private int poolUsed;
        /** How many of them are not DOUBTFUL; these are the first ones. */
        int certain;

        int size() {
            return rows.size();
        }

        void gather(ArrayList<Sighting> sightings, ArrayList<Segment> segments, Vehicle vehicle, int day) {
            poolUsed = 0;
            pick(sightings, vehicle, day);
            joinPicked();
            rows.clear();
            addSure(segments);
            certain = rows.size();
            addDoubtful();
        }

        private void pick(ArrayList<Sighting> sightings, Vehicle vehicle, int day) {
            picked.clear();
            for (int i = 0; i < sightings.size(); i++) {
                Sighting one = sightings.get(i);
                if (one.isOf(vehicle, day)) {
                    picked.add(placeOf(one), one);
                }
            }
        }

        private int placeOf(Sighting one) {
            for (int i = 0; i < picked.size(); i++) {
                if (one.isAheadOf(picked.get(i))) {
                    return i;
                }
            }
            return picked.size();
        }

        // The picked ones go by minute, then by SEGMENT; so do the PASSAGES that they begin.
        private void joinPicked() {
            joined.clear();
            for (int i = 0; i < picked.size(); i++) {
                Sighting one = picked.get(i);
                Passage passage = lastOn(one.segment);
                if (passage == null || one.minute - passage.minute > MINUTES_OF_PASSAGE) {
                    passage = begin(one.segment, one.minute);
                    joined.add(passage);
                }
                passage.join(one);
            }
        }

        private Passage lastOn(Segment segment) {
            for (int i = joined.size() - 1; i >= 0; i--) {
                Passage one = joined.get(i);
                if (one.segment == segment) {
                    return one;
                }
            }
            return null;
        }

        private Passage begin(Segment segment, int minute) {
            if (poolUsed >= pool.size()) {
                pool.add(new Passage(segment, minute));
                poolUsed = pool.size() - 1;
            }
            Passage one = pool.get(poolUsed);
            one.restart(segment, minute);
            poolUsed++;
            return one;
        }

        private void addSure(ArrayList<Segment> segments) {
            Passage ahead = null;
            for (int i = 0; i < joined.size(); i++) {
                Passage one = joined.get(i);
                if (one.isDoubtful) {
                    continue;
                }
                if (ahead != null) {
                    addInferred(segments, ahead, one);
                }
                rows.add(one);
                ahead = one;
            }
        }

        private void addInferred(ArrayList<Segment> segments, Passage ahead, Passage behind) {
            int from = ahead.segment.to;
            int to = behind.segment.from;
            if (from == to || behind.minute - ahead.minute > MINUTES_TO_INFER) {
                return;
            }
            Segment only = onlyBetween(segments, from, to);
            if (only != null) {
                rows.add(begin(only, (ahead.minute + behind.minute) / 2));
            }
        }

        /** The SEGMENT from one KNOT to the other; null, if there is none, or more than one. */
        private static Segment onlyBetween(ArrayList<Segment> segments, int from, int to) {
            Segment found = null;
            for (int i = 0; i < segments.size(); i++) {
                Segment one = segments.get(i);
                if (one.from == from && one.to == to) {
                    if (found != null) {
                        return null;
                    }
                    found = one;
                }
            }
            return found;
        }

        private void addDoubtful() {
            for (int i = 0; i < joined.size(); i++) {
                Passage one = joined.get(i);
                if (one.isDoubtful) {
                    rows.add(one);
                }
            }
        }

        /** Sets what is DUE of each one, as if the VEHICLE were of that CLASS; answers the BILL. */
        int charge(Vehicle vehicle, int rank, int most, Tariffs tariffs) {
            int sum = 0;
            for (int i = 0; i < rows.size(); i++) {
                Passage one = rows.get(i);
                int price = tariffs.price(one.segment, rank, vehicle.emission, one.minute);
                one.reason = reasonOf(one, vehicle, price, most - sum);
                one.due = dueFor(one.reason, price, most - sum);
                sum += one.due;
            }
            return sum;
        }

        private static int reasonOf(Passage one, Vehicle vehicle, int price, int left) {
            if (one.isDoubtful) {
                return REASON_DOUBTFUL;
            }
            if (vehicle.isExempt(one.segment.owner)) {
                return REASON_EXEMPT;
            }
            if (one.segment.isShut(one.minute)) {
                return REASON_SHUT;
            }
            return price > left ? REASON_CAPPED : REASON_TOLL;
        }

        private static int dueFor(int reason, int price, int left) {
            if (reason == REASON_TOLL) {
                return price;
            }
            return reason == REASON_CAPPED ? left : 0;
        }

        int dueTo(int owner) {
            int sum = 0;
            for (int i = 0; i < rows.size(); i++) {
                Passage one = rows.get(i);
                if (one.segment.owner == owner) {
                    sum += one.due;
                }
            }
            return sum;
        }

        int journeyCount() {
            int count = 0;
            Passage ahead = null;
            for (int i = 0; i < certain && i < rows.size(); i++) {
                Passage one = rows.get(i);
                if (ahead == null || ahead.segment.to != one.segment.from
                        || one.minute - ahead.minute > MINUTES_OF_JOURNEY) {
                    count++;
                }
                ahead = one;
            }
            return count;
        }

        /** Whether a SURE one by SIGHTINGS began there in that minute, or up to 15 ahead of it. */
        boolean hasBegun(Segment segment, int minute) {
            for (int i = 0; i < certain && i < rows.size(); i++) {
                Passage one = rows.get(i);
                if (one.segment == segment && one.sightings > 0
                        && isIn(minute - one.minute, 0, MINUTES_OF_PASSAGE)) {
                    return true;
                }
            }
            return false;
        }

        int fact(int k, int what) {
            if (k < 0 || k >= rows.size()) {
                return NONE;
            }
            Passage one = rows.get(k);
            switch (what) {
                case 0:
                    return one.segment.number;
                case 1:
                    return one.minute;
                case 2:
                    return one.sightings;
                case 3:
                    return one.reason;
                default:
                    return one.due;
            }
        }
    }

    /** The coins of the OWNERS and of the HALL, and what was paid for each DAY that is CLOSED. */
    private static final class Ledger {
        private static final int CLOSED_DAYS = LAST_MINUTE / DAY;
        private final int[] coins = new int[OWNERS];
        private final int[] caps = new int[CLOSED_DAYS];
        private final int[] paid = new int[CLOSED_DAYS * MOST_VEHICLES * OWNERS];
        int hall;
        int taken;
        int givenBack;

        int coinsOf(int owner) {
            return owner >= 0 && owner < coins.length ? coins[owner] : 0;
        }

        void keepCap(int day, int most) {
            if (day >= 0 && day < caps.length) {
                caps[day] = most;
            }
        }

        int capOfClosing(int day) {
            return day >= 0 && day < caps.length ? caps[day] : 0;
        }

        void receive(int day, int vehicle, int owner, int due) {
            int place = placeOf(day, vehicle, owner);
            if (place >= 0 && place < paid.length) {
                paid[place] = due;
                taken += due;
                share(owner, due, 1);
            }
        }

        int giveBack(int day, int vehicle, int owner, int due) {
            int place = placeOf(day, vehicle, owner);
            if (place < 0 || place >= paid.length || due >= paid[place]) {
                return 0;
            }
            int back = paid[place] - due;
            share(owner, paid[place], -1);
            share(owner, due, 1);
            paid[place] = due;
            givenBack += back;
            return back;
        }

        private static int placeOf(int day, int vehicle, int owner) {
            return (day * MOST_VEHICLES + vehicle) * OWNERS + owner;
        }

        // A sum must be shared whole, since the twentieth of a sum is not that of its parts.
        private void share(int owner, int sum, int sign) {
            int twentieth = sum / 20;
            hall += sign * twentieth;
            if (owner >= 0 && owner < coins.length) {
                coins[owner] += sign * (sum - twentieth);
            }
        }
    }
}
