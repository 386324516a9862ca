import java.util.Arrays;
import java.util.Random;
import java.util.TreeMap;

/** Long mixed runs: the program must answer as the plain one does. */
public final class ModelTest {
    private static final int RUNS = 120;
    private static final int CALLS = 512;
    private static final int[] STRANGE = {-1, Integer.MIN_VALUE, Integer.MAX_VALUE, 8, 12, 60, 1440, 60001, 72001};
    /** Each name as often as its share of the calls. */
    private static final String[] NAMES = (
            "segment shut tariff tariff holiday cap vehicle exempt exempt pay pay "
            + "see see see see see see see correct correct control control control dispute dispute dispute "
            + "pass pass pass pass pass pass ofSegment ofVehicle ofSighting ofOwner passages ofPassage ofPassage "
            + "journeys many meanDue toll bill cheapest bestMinute wouldSave digest").split(" ");

    private final Random random;
    private final GantryHall hall = new GantryHall();
    private final PlainHall plain = new PlainHall();
    private final int wildness;
    private final int longestPass;
    private int segments;
    private int vehicles;
    private int sightings;
    private int now;

    private ModelTest(int seed) {
        random = new Random(seed);
        wildness = seed % 3 == 0 ? 10 : 200;
        longestPass = new int[] {80, 300, 600, 3500}[seed % 4];
    }

    public static void main(String[] args) {
        TreeMap<String, Integer> seen = new TreeMap<>();
        for (int seed = 0; seed < RUNS; seed++) {
            new ModelTest(seed).run(seed, seen);
        }
        for (String name : NAMES) {
            Check.same("answers of " + name, true, seen.getOrDefault(name, 0) > 0);
        }
        Check.same("disputes that give back", true, seen.getOrDefault("dispute above 0", 0) > 20);
        Check.same("controls that are well", true, seen.getOrDefault("control below 0", 0) > 20);
        Check.same("savings", true, seen.getOrDefault("wouldSave above 0", 0) > 20);
        Check.same("bills", true, seen.getOrDefault("pass above 0", 0) > 20);
        Check.end("ModelTest");
    }

    private void run(int seed, TreeMap<String, Integer> seen) {
        for (int k = 0; k < CALLS; k++) {
            String name = k < 40 && random.nextInt(2) == 0 ? begin() : NAMES[random.nextInt(NAMES.length)];
            Object[] arguments = arguments(name);
            Object due = Faces.call(plain, name, arguments);
            Object got = Faces.call(hall, name, arguments);
            String text = "run " + seed + ", call " + k + ": " + name + Arrays.toString(arguments);
            if (!isSame(due, got)) {
                Check.wrong(text + " answered " + got + ", due is " + due);
                return;
            }
            if ((k & 15) == 15 && hall.digest() != plain.digest()) {
                Check.wrong(text + " and what was ahead of it changed the digest otherwise");
                return;
            }
            count(seen, name, got);
            segments = plain.many(1);
            vehicles = plain.many(2);
            sightings = plain.many(3);
            now = plain.many(0);
        }
    }

    private static void count(TreeMap<String, Integer> seen, String name, Object got) {
        if (got instanceof RuntimeException) {
            return;
        }
        seen.merge(name, 1, Integer::sum);
        if (got instanceof Integer number && number != 0) {
            seen.merge(name + (number > 0 ? " above 0" : " below 0"), 1, Integer::sum);
        }
    }

    private static boolean isSame(Object due, Object got) {
        if (got instanceof RuntimeException e) {
            return due.getClass() == got.getClass() && Check.isThrownByProgram(e);
        }
        return got.equals(due);
    }

    private String begin() {
        String[] names = {"segment", "segment", "vehicle", "tariff", "pass"};
        return names[random.nextInt(names.length)];
    }

    private int up(int least, int most) {
        if (random.nextInt(wildness) == 0) {
            return random.nextBoolean() ? STRANGE[random.nextInt(STRANGE.length)]
                    : random.nextBoolean() ? least - 1 : most + 1;
        }
        return most < least ? least : least + random.nextInt(most - least + 1);
    }

    private int car() {
        return up(0, Math.min(vehicles - 1, 3));
    }

    private int road() {
        return up(0, random.nextInt(3) == 0 ? segments - 1 : Math.min(segments - 1, 3));
    }

    private int day() {
        return up(Math.max(0, now / 1440 - 4), now / 1440);
    }

    private int minute() {
        if (random.nextInt(8) == 0) {
            return up(Math.max(0, now / 1440 * 1440 - 20), now);
        }
        return up(Math.max(0, now - random.nextInt(400)), now);
    }

    private Object[] arguments(String name) {
        return switch (name) {
            // Few KNOTS, so that ways meet.
            case "segment" -> new Object[] {up(0, 5), up(0, 5), up(1, 60), up(0, 3)};
            case "shut" -> shutArguments();
            case "tariff" -> new Object[] {up(0, 3), up(1, 12), up(0, 9), up(0, 100), up(now / 1440 + 1, now / 1440 + 3)};
            case "holiday" -> new Object[] {up(now / 1440 + 1, now / 1440 + 3)};
            case "cap" -> new Object[] {up(50, 999)};
            case "vehicle" -> new Object[] {up(0, 2), up(0, 3), up(0, 2)};
            case "exempt" -> new Object[] {car(), up(0, 3), random.nextInt(3) == 0};
            case "pay" -> new Object[] {car(), up(1, 400)};
            case "see" -> new Object[] {car(), road(), minute(), up(0, 2)};
            case "correct" -> new Object[] {up(0, sightings - 1), car()};
            case "control" -> controlArguments();
            case "dispute" -> disputeArguments();
            case "passages", "journeys" -> new Object[] {car(), day()};
            case "pass" -> new Object[] {up(1, longestPass)};
            case "ofSegment" -> new Object[] {road(), up(0, 4)};
            case "ofVehicle" -> new Object[] {car(), up(0, 7)};
            case "ofSighting" -> new Object[] {up(0, sightings - 1), up(0, 4)};
            case "ofOwner" -> new Object[] {up(0, 3), up(0, 3)};
            case "ofPassage" -> new Object[] {car(), day(), up(0, 3), up(0, 4)};
            case "many" -> new Object[] {up(0, 14)};
            case "meanDue" -> new Object[] {day()};
            case "toll" -> new Object[] {car(), road(), up(0, 72000)};
            case "bill" -> new Object[] {car(), day(), up(50, 999)};
            case "cheapest" -> new Object[] {car(), up(0, 7), up(0, 7)};
            case "bestMinute" -> new Object[] {car(), road()};
            case "wouldSave" -> new Object[] {car()};
            default -> new Object[0];
        };
    }

    /** What is told of a SIGHTING that is there, or of none. */
    private int[] sighting() {
        int which = sightings == 0 ? 0 : random.nextInt(sightings);
        if (sightings == 0 || plain.ofSighting(which, 4) == 1) {
            return new int[] {car(), road(), minute()};
        }
        return new int[] {plain.ofSighting(which, 0), plain.ofSighting(which, 1), plain.ofSighting(which, 2)};
    }

    private Object[] controlArguments() {
        int[] at = sighting();
        return random.nextInt(3) == 0 ? new Object[] {car(), road(), minute()}
                : new Object[] {at[0], at[1], Math.min(now, at[2] + up(-1, 17))};
    }

    private Object[] disputeArguments() {
        int[] at = sighting();
        return random.nextInt(3) == 0 ? new Object[] {car(), day()} : new Object[] {at[0], at[2] / 1440};
    }

    private Object[] shutArguments() {
        if (random.nextBoolean()) {
            int[] at = sighting();
            return new Object[] {at[1], at[2], at[2] + up(0, 20)};
        }
        int from = up(Math.max(0, now - 500), now + 500);
        return new Object[] {road(), from, up(from, from < 50000 ? from + 300 : from)};
    }
}
