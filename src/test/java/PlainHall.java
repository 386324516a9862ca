import java.util.ArrayList;
import java.util.Comparator;
import java.util.HashSet;
import java.util.List;
import java.util.Map;
import java.util.Set;
import java.util.TreeMap;
import java.util.TreeSet;

/**
 * The document once more, slow and plain, to hold the program against. Coins are not moved about: what
 * each one has is made anew from what was paid, at each question.
 */
final class PlainHall {
    private record Road(int from, int to, int length, int owner) {
    }

    private record Shutting(int road, int from, int to) {
    }

    private record Terms(int owner, int rate, int step, int peak, int day) {
    }

    private record Car(int rank, int emission, int account) {
    }

    private record Sight(int car, int road, int minute, int source) {
    }

    private record Ride(int road, int minute, int sights, boolean sure) {
    }

    private record Due(int reason, int coins) {
    }

    private record Closing(int day, int car, int owner) {
    }

    private final List<Road> roads = new ArrayList<>();
    private final List<Shutting> shuttings = new ArrayList<>();
    private final List<Terms> terms = new ArrayList<>();
    private final Set<Integer> holidays = new TreeSet<>();
    private final List<Car> cars = new ArrayList<>();
    private final Set<List<Integer>> exemptions = new HashSet<>();
    private final List<Sight> sights = new ArrayList<>();
    private final Map<Closing, Integer> paid = new java.util.HashMap<>();
    private final Map<Integer, Integer> caps = new TreeMap<>();
    private final int[] coinsIn = new int[8];
    private final int[] fines = new int[8];
    private final int[] extras = new int[8];
    private final Set<Integer> list = new TreeSet<>();
    private int givenBack;
    private int alarms;
    private int catches;
    private int cap = 300;
    private int now;

    int segment(int from, int to, int length, int owner) {
        index(in(from, 0, 7) && in(to, 0, 7) && in(owner, 0, 3));
        argument(from != to && in(length, 1, 60));
        state(roads.size() < 12);
        roads.add(new Road(from, to, length, owner));
        return roads.size() - 1;
    }

    int shut(int segment, int from, int to) {
        index(in(segment, 0, roads.size() - 1));
        argument(in(from, 0, 60000) && in(to, from, 60000));
        state(shuttings.size() < 8);
        shuttings.add(new Shutting(segment, from, to));
        return shuttings.size();
    }

    int tariff(int owner, int rate, int step, int peak, int day) {
        index(in(owner, 0, 3));
        argument(in(rate, 1, 30) && in(step, 0, 9) && in(peak, 0, 100) && in(day, now / 1440 + 1, 50));
        state(terms.size() < 16);
        terms.add(new Terms(owner, rate, step, peak, day));
        return terms.size();
    }

    int holiday(int day) {
        argument(in(day, now / 1440 + 1, 50) && !holidays.contains(day));
        state(holidays.size() < 10);
        holidays.add(day);
        return holidays.size();
    }

    int cap(int next) {
        argument(in(next, 50, 999));
        int before = cap;
        cap = next;
        return before;
    }

    int vehicle(int rank, int emission, int account) {
        argument(in(rank, 0, 2) && in(emission, 0, 3) && in(account, 0, 2));
        state(cars.size() < 8);
        cars.add(new Car(rank, emission, account));
        return cars.size() - 1;
    }

    boolean exempt(int vehicle, int owner, boolean is) {
        index(isCar(vehicle) && in(owner, 0, 3));
        List<Integer> pair = List.of(vehicle, owner);
        return is ? !exemptions.add(pair) : exemptions.remove(pair);
    }

    int pay(int vehicle, int coins) {
        index(isCar(vehicle));
        argument(in(coins, 1, 2000));
        coinsIn[vehicle] += coins;
        return balance(vehicle);
    }

    int see(int vehicle, int segment, int minute, int source) {
        index(isCar(vehicle) && in(segment, 0, roads.size() - 1));
        argument(in(minute, 0, now) && in(source, 0, 2));
        state(!caps.containsKey(minute / 1440) && sights.size() < 60);
        sights.add(new Sight(vehicle, segment, minute, source));
        alarms += source == 1 && list.contains(vehicle) ? 1 : 0;
        return sights.size() - 1;
    }

    int correct(int sighting, int vehicle) {
        index(in(sighting, 0, sights.size() - 1) && isCar(vehicle));
        Sight old = sights.get(sighting);
        state(old.source == 2 && !isErased(old.minute / 1440));
        sights.set(sighting, new Sight(vehicle, old.road, old.minute, old.source));
        return old.car;
    }

    int control(int vehicle, int segment, int minute) {
        index(isCar(vehicle) && in(segment, 0, roads.size() - 1));
        argument(in(minute, 0, now));
        state(!caps.containsKey(minute / 1440));
        for (int day = 0; day <= now / 1440; day++) {
            for (Ride ride : ofSights(vehicle, day)) {
                if (ride.sure && ride.road == segment && in(ride.minute, minute - 15, minute)) {
                    return -1;
                }
            }
        }
        int fine = 2 * tollOf(vehicle, cars.get(vehicle).rank, segment, minute);
        fines[vehicle] += fine;
        catches++;
        return fine;
    }

    int dispute(int vehicle, int day) {
        index(isCar(vehicle));
        argument(caps.containsKey(day) && !isErased(day));
        int back = 0;
        int[] due = byOwner(vehicle, day, caps.get(day));
        for (int owner = 0; owner < 4; owner++) {
            Closing closing = new Closing(day, vehicle, owner);
            int had = paid.getOrDefault(closing, 0);
            if (due[owner] < had) {
                paid.put(closing, due[owner]);
                back += had - due[owner];
            }
        }
        givenBack += back;
        return back;
    }

    int pass(int minutes) {
        argument(in(minutes, 1, 3000));
        state(now + minutes <= 60000);
        int bills = 0;
        for (int k = 0; k < minutes; k++) {
            now++;
            if (now % 1440 == 0) {
                bills += beginDay(now / 1440);
            }
        }
        return bills;
    }

    private int beginDay(int today) {
        int bills = 0;
        if (today >= 2) {
            caps.put(today - 2, cap);
            for (int car = 0; car < cars.size(); car++) {
                int[] due = byOwner(car, today - 2, cap);
                int sum = due[0] + due[1] + due[2] + due[3];
                for (int owner = 0; owner < 4; owner++) {
                    paid.put(new Closing(today - 2, car, owner), due[owner]);
                }
                extras[car] += sum > 0 && cars.get(car).account == 2 ? 10 : 0;
                bills += sum;
            }
        }
        list.clear();
        for (int car = 0; car < cars.size(); car++) {
            if (isBlocked(car)) {
                list.add(car);
            }
        }
        return bills;
    }

    int ofSegment(int segment, int what) {
        index(in(segment, 0, roads.size() - 1));
        argument(in(what, 0, 4));
        Road road = roads.get(segment);
        return new int[] {road.from, road.to, road.length, road.owner, isShut(segment, now) ? 1 : 0}[what];
    }

    int ofVehicle(int vehicle, int what) {
        index(isCar(vehicle));
        argument(in(what, 0, 7));
        Car car = cars.get(vehicle);
        int set = 0;
        for (int owner = 0; owner < 4; owner++) {
            set += exemptions.contains(List.of(vehicle, owner)) ? 1 << owner : 0;
        }
        return new int[] {car.rank, car.emission, car.account, balance(vehicle), isBlocked(vehicle) ? 1 : 0, set,
            taken(vehicle), fines[vehicle]}[what];
    }

    int ofSighting(int sighting, int what) {
        index(in(sighting, 0, sights.size() - 1));
        argument(in(what, 0, 4));
        Sight one = sights.get(sighting);
        if (isErased(one.minute / 1440)) {
            return what == 4 ? 1 : -1;
        }
        return new int[] {one.car, one.road, one.minute, one.source, 0}[what];
    }

    int ofOwner(int owner, int what) {
        index(in(owner, 0, 3));
        argument(in(what, 0, 3));
        if (what == 0) {
            int sum = 0;
            for (Map.Entry<Closing, Integer> one : paid.entrySet()) {
                sum += one.getKey().owner == owner ? one.getValue() - one.getValue() / 20 : 0;
            }
            return sum;
        }
        Terms terms = termsOf(owner, now / 1440);
        return terms == null ? 0 : new int[] {0, terms.rate, terms.step, terms.peak}[what];
    }

    int passages(int vehicle, int day) {
        index(isCar(vehicle));
        argument(day >= 0);
        return rides(vehicle, day).size();
    }

    int ofPassage(int vehicle, int day, int k, int what) {
        index(isCar(vehicle) && day >= 0 && in(k, 0, rides(vehicle, day).size() - 1));
        argument(in(what, 0, 4));
        Ride ride = rides(vehicle, day).get(k);
        Due due = dues(vehicle, cars.get(vehicle).rank, day, cap).get(k);
        return new int[] {ride.road, ride.minute, ride.sights, due.reason, due.coins}[what];
    }

    int journeys(int vehicle, int day) {
        index(isCar(vehicle));
        argument(day >= 0);
        List<Ride> some = rides(vehicle, day).stream().filter(ride -> ride.sure).toList();
        int count = 0;
        for (int k = 0; k < some.size(); k++) {
            count += k == 0 || end(some.get(k - 1)) != begin(some.get(k))
                    || some.get(k).minute > some.get(k - 1).minute + 120 ? 1 : 0;
        }
        return count;
    }

    int many(int what) {
        argument(in(what, 0, 14));
        int erased = 0;
        for (Sight one : sights) {
            erased += isErased(one.minute / 1440) ? 1 : 0;
        }
        int bills = 0;
        int hall = 0;
        for (int coins : paid.values()) {
            bills += coins;
            hall += coins / 20;
        }
        int blocked = 0;
        int listed = 0;
        for (int car = 0; car < cars.size(); car++) {
            hall += extras[car] + fines[car];
            blocked += isBlocked(car) ? 1 << car : 0;
            listed += list.contains(car) ? 1 << car : 0;
        }
        return new int[] {now, roads.size(), cars.size(), sights.size(), erased, terms.size(), holidays.size(), cap,
            hall, alarms, catches, bills, givenBack, listed, blocked}[what];
    }

    double meanDue(int day) {
        argument(day >= 0);
        List<Integer> all = new ArrayList<>();
        for (int car = 0; car < cars.size(); car++) {
            for (Due due : dues(car, cars.get(car).rank, day, cap)) {
                if (due.reason != 1) {
                    all.add(due.coins);
                }
            }
        }
        return all.stream().mapToInt(one -> one).average().orElse(0);
    }

    int toll(int vehicle, int segment, int minute) {
        index(isCar(vehicle) && in(segment, 0, roads.size() - 1));
        argument(in(minute, 0, 72000));
        return tollOf(vehicle, cars.get(vehicle).rank, segment, minute);
    }

    int bill(int vehicle, int day, int most) {
        index(isCar(vehicle));
        argument(day >= 0 && in(most, 50, 999));
        return sum(dues(vehicle, cars.get(vehicle).rank, day, most));
    }

    int cheapest(int vehicle, int from, int to) {
        index(isCar(vehicle) && in(from, 0, 7) && in(to, 0, 7));
        return way(vehicle, from, to, new TreeSet<>());
    }

    private int way(int car, int from, int to, Set<Integer> seen) {
        if (from == to) {
            return 0;
        }
        seen.add(from);
        int best = -1;
        for (int k = 0; k < roads.size(); k++) {
            Road road = roads.get(k);
            if (road.from == from && !seen.contains(road.to) && !isShut(k, now)) {
                int rest = way(car, road.to, to, seen);
                int all = rest + tollOf(car, cars.get(car).rank, k, now);
                best = rest >= 0 && (best < 0 || all < best) ? all : best;
            }
        }
        seen.remove(from);
        return best;
    }

    int bestMinute(int vehicle, int segment) {
        index(isCar(vehicle) && in(segment, 0, roads.size() - 1));
        int best = now;
        int rank = cars.get(vehicle).rank;
        for (int minute = now; minute <= now + 1439; minute++) {
            if (tollOf(vehicle, rank, segment, minute) < tollOf(vehicle, rank, segment, best)) {
                best = minute;
            }
        }
        return best;
    }

    int wouldSave(int vehicle) {
        index(isCar(vehicle));
        int set = 0;
        int is = sum(dues(vehicle, cars.get(vehicle).rank, now / 1440, cap));
        for (int rank = 0; rank < 3; rank++) {
            set += sum(dues(vehicle, rank, now / 1440, cap)) < is ? 1 << rank : 0;
        }
        return set;
    }

    long digest() {
        return DigestByAsking.of(this);
    }

    private static boolean in(int number, int least, int most) {
        return number >= least && number <= most;
    }

    private static void index(boolean holds) {
        if (!holds) {
            throw new IndexOutOfBoundsException();
        }
    }

    private static void argument(boolean holds) {
        if (!holds) {
            throw new IllegalArgumentException();
        }
    }

    private static void state(boolean holds) {
        if (!holds) {
            throw new IllegalStateException();
        }
    }

    private boolean isCar(int car) {
        return in(car, 0, cars.size() - 1);
    }

    private boolean isErased(int day) {
        return now / 1440 - day >= 5;
    }

    private boolean isShut(int road, int minute) {
        return shuttings.stream().anyMatch(one -> one.road == road && in(minute, one.from, one.to));
    }

    private Terms termsOf(int owner, int day) {
        Terms last = null;
        for (Terms one : terms) {
            last = one.owner == owner && one.day <= day ? one : last;
        }
        return last;
    }

    private int tollOf(int car, int rank, int road, int minute) {
        Road on = roads.get(road);
        Terms terms = termsOf(on.owner, minute / 1440);
        if (terms == null || isShut(road, minute) || exemptions.contains(List.of(car, on.owner))) {
            return 0;
        }
        int plain = on.length * (terms.rate + terms.step * rank) * (10 + cars.get(car).emission) / 10;
        boolean isPeak = List.of(7, 8, 9, 16, 17, 18).contains(minute / 60 % 24) && !holidays.contains(minute / 1440);
        return isPeak ? plain + plain * terms.peak / 100 : plain;
    }

    private int taken(int car) {
        int sum = 0;
        for (Map.Entry<Closing, Integer> one : paid.entrySet()) {
            sum += one.getKey().car == car ? one.getValue() : 0;
        }
        return sum;
    }

    private int balance(int car) {
        return coinsIn[car] - fines[car] - extras[car] - taken(car);
    }

    private boolean isBlocked(int car) {
        int account = cars.get(car).account;
        return account == 0 && balance(car) < 0 || account == 1 && balance(car) < -500;
    }

    private int begin(Ride ride) {
        return roads.get(ride.road).from;
    }

    private int end(Ride ride) {
        return roads.get(ride.road).to;
    }

    private List<Ride> ofSights(int car, int day) {
        List<Ride> all = new ArrayList<>();
        for (int k = 0; k < roads.size(); k++) {
            int road = k;
            List<Sight> left = new ArrayList<>(sights);
            left.removeIf(one -> one.car != car || one.road != road || one.minute / 1440 != day);
            while (!left.isEmpty() && !isErased(day)) {
                int first = left.stream().mapToInt(Sight::minute).min().getAsInt();
                List<Sight> ones = left.stream().filter(one -> one.minute <= first + 15).toList();
                boolean sure = ones.size() >= 2 || ones.get(0).source != 2;
                all.add(new Ride(road, first, ones.size(), sure));
                left.removeAll(ones);
            }
        }
        all.sort(Comparator.comparingInt(Ride::minute).thenComparingInt(Ride::road));
        return all;
    }

    private List<Ride> rides(int car, int day) {
        List<Ride> all = new ArrayList<>();
        Ride ahead = null;
        for (Ride ride : ofSights(car, day)) {
            if (ride.sure) {
                if (ahead != null && begin(ride) != end(ahead) && ride.minute <= ahead.minute + 180) {
                    List<Integer> ways = new ArrayList<>();
                    for (int k = 0; k < roads.size(); k++) {
                        if (roads.get(k).from == end(ahead) && roads.get(k).to == begin(ride)) {
                            ways.add(k);
                        }
                    }
                    if (ways.size() == 1) {
                        all.add(new Ride(ways.get(0), (ahead.minute + ride.minute) / 2, 0, true));
                    }
                }
                all.add(ride);
                ahead = ride;
            }
        }
        ofSights(car, day).stream().filter(ride -> !ride.sure).forEach(all::add);
        return all;
    }

    private List<Due> dues(int car, int rank, int day, int most) {
        List<Due> all = new ArrayList<>();
        for (Ride ride : rides(car, day)) {
            int toll = tollOf(car, rank, ride.road, ride.minute);
            if (!ride.sure) {
                all.add(new Due(1, 0));
            } else if (exemptions.contains(List.of(car, roads.get(ride.road).owner))) {
                all.add(new Due(2, 0));
            } else if (isShut(ride.road, ride.minute)) {
                all.add(new Due(3, 0));
            } else if (sum(all) + toll > most) {
                all.add(new Due(4, most - sum(all)));
            } else {
                all.add(new Due(0, toll));
            }
        }
        return all;
    }

    private static int sum(List<Due> dues) {
        return dues.stream().mapToInt(Due::coins).sum();
    }

    private int[] byOwner(int car, int day, int most) {
        int[] sums = new int[4];
        List<Due> dues = dues(car, cars.get(car).rank, day, most);
        List<Ride> rides = rides(car, day);
        for (int k = 0; k < rides.size(); k++) {
            sums[roads.get(rides.get(k).road).owner] += dues.get(k).coins;
        }
        return sums;
    }
}
