import java.util.Arrays;
import java.util.Map;
import java.util.Random;
import java.util.TreeMap;

/** All promises: runs of 512 calls, by fixed seeds, on the class and on the model, answer by answer. */
public final class ModelTest extends Due {
    private static final int RUNS = 400;
    private static final int CALLS = 512;

    private static final String[] NAMES = {
        "vehicle", "list", "unlist", "answer", "item", "use", "runs", "reason", "off", "damage", "proof",
        "need", "put", "swap", "spare", "fuel", "using", "key", "cost", "skipped", "tick", "vehicleAt",
    };
    private static final int[] EDGES = {
        Integer.MIN_VALUE, Integer.MIN_VALUE + 1, -100_000, -99_999, -10_000, -9_999, -2, -1, 0, 1, 2, 3, 4, 5, 9,
        10, 19, 20, 39, 40, 99, 100, 5_000, 5_001, 9_999, 10_000, 99_999, 100_000, 1_000_000, 1_000_001,
        10_000_000, 10_000_001, 1_000_000_000, Integer.MAX_VALUE - 1, Integer.MAX_VALUE,
    };

    private final Random random;
    private final int kinds;
    private final int vehicles;
    private final int items;
    private final int longestTick;
    private final int wrongOf;
    private final String often;
    private final int oftenOf;
    private final VehicleChecks checks = new VehicleChecks();
    private final Model model = new Model();

    private ModelTest(int seed) {
        random = new Random(seed);
        kinds = 1 + random.nextInt(5);
        vehicles = 1 + random.nextInt(20);
        items = 1 + random.nextInt(10);
        longestTick = random.nextInt(4) == 0 ? 5000 : 4;
        wrongOf = 10 + random.nextInt(90);
        often = NAMES[seed % NAMES.length];
        oftenOf = 2 + random.nextInt(4);
    }

    public static void main(String[] args) {
        Map<String, Integer> seen = new TreeMap<>();
        for (int seed = 0; seed < RUNS; seed++) {
            new ModelTest(seed).run(seed, seen);
        }
        // A run that never meets a refusal or an answer would not test it.
        for (String name : NAMES) {
            compare(name + " answers", name + (seen.containsKey(name) ? " answers" : " never answers"));
        }
        // The face names 45 refusals; fuel's "no room" lies beyond the 512 calls of an object.
        compare("44 kinds of refusal", (seen.size() - NAMES.length) + " kinds of refusal");
        end();
    }

    private void run(int seed, Map<String, Integer> seen) {
        for (int i = 0; i < CALLS; i++) {
            String name = nextName(i);
            int[] a = arguments(name);
            String want = String.valueOf(model.call(name, a));
            String got = String.valueOf(real(name, a));
            String text = name + Arrays.toString(a);
            seen.merge(want.endsWith("Exception") ? name + " " + want : name, 1, Integer::sum);
            compare("run " + seed + " call " + i + " " + text + " " + want,
                "run " + seed + " call " + i + " " + text + " " + got);
            if (!want.equals(got)) {
                return;
            }
        }
    }

    private String nextName(int i) {
        if (i < vehicles) {
            return "vehicle";
        }
        return random.nextInt(oftenOf) == 0 ? often : NAMES[random.nextInt(NAMES.length)];
    }

    private int[] arguments(String name) {
        int[] a = fitting(name);
        if (random.nextInt(wrongOf) == 0) {
            for (int i = 0; i < a.length; i++) {
                boolean truth = i == 1 && (name.equals("vehicle") || name.equals("off"));
                if (!truth && random.nextInt(2) == 0) {
                    a[i] = EDGES[random.nextInt(EDGES.length)];
                }
            }
        }
        return a;
    }

    private int[] fitting(String name) {
        int v = random.nextInt(vehicles);
        int item = random.nextInt(items);
        switch (name) {
            case "vehicle": return new int[] {random.nextInt(kinds), random.nextInt(2)};
            case "list": {
                int low = random.nextInt(21) - 10;
                int every = random.nextInt(3) == 0 ? 0 : random.nextInt(20);
                return new int[] {random.nextInt(kinds), item, low, low + random.nextInt(12), grade(), every};
            }
            case "unlist": return new int[] {random.nextInt(kinds), item};
            case "answer": return new int[] {v, item, random.nextInt(25) - 12, random.nextInt(40)};
            case "item": return new int[] {v, item, random.nextInt(6)};
            case "use": return new int[] {v, random.nextInt(200)};
            case "reason": return new int[] {v, random.nextInt(5)};
            case "off": return new int[] {v, random.nextInt(2), random.nextInt(6), random.nextInt(6)};
            case "damage": return new int[] {v, grade()};
            case "proof": return new int[] {random.nextInt(20), 1 + random.nextInt(9999)};
            case "need": return new int[] {random.nextInt(kinds), random.nextInt(10), random.nextInt(10)};
            case "put": return new int[] {v, random.nextInt(3), 1 + random.nextInt(9)};
            case "swap": return new int[] {v, random.nextInt(vehicles), random.nextInt(3)};
            case "fuel": return new int[] {v, 1 + random.nextInt(1_000_000)};
            case "using": return new int[] {v, random.nextInt(2)};
            case "key": return new int[] {v, random.nextInt(5) - 1};
            case "cost": return new int[] {v, random.nextInt(10_000_001)};
            case "skipped": return new int[] {random.nextInt(10)};
            case "tick": return new int[] {1 + random.nextInt(longestTick)};
            case "vehicleAt": return new int[] {v, random.nextInt(6)};
            default: return new int[] {v};
        }
    }

    private int grade() {
        int n = random.nextInt(10);
        return n < 6 ? 1 : n < 9 ? 2 : 3;
    }

    private Object real(String name, int[] a) {
        try {
            return answerOf(name, a);
        } catch (RuntimeException e) {
            return e.getClass().getSimpleName();
        }
    }

    private long answerOf(String name, int[] a) {
        switch (name) {
            case "vehicle": return checks.vehicle(a[0], a[1] == 1);
            case "list": checks.list(a[0], a[1], a[2], a[3], a[4], a[5]); return 0;
            case "unlist": checks.unlist(a[0], a[1]); return 0;
            case "answer": return checks.answer(a[0], a[1], a[2], a[3]) ? 1 : 0;
            case "item": return checks.item(a[0], a[1], a[2]);
            case "use": return checks.use(a[0], a[1]) ? 1 : 0;
            case "runs": return checks.runs(a[0]) ? 1 : 0;
            case "reason": return checks.reason(a[0], a[1]);
            case "off": checks.off(a[0], a[1] == 1, a[2], a[3]); return 0;
            case "damage": return checks.damage(a[0], a[1]);
            case "proof": checks.proof(a[0], a[1]); return 0;
            case "need": checks.need(a[0], a[1], a[2]); return 0;
            case "put": return checks.put(a[0], a[1], a[2]);
            case "swap": return checks.swap(a[0], a[1], a[2]);
            case "spare": return checks.spare(a[0]);
            case "fuel": return checks.fuel(a[0], a[1]);
            case "using": return checks.using(a[0], a[1]);
            case "key": return checks.key(a[0], a[1]);
            case "cost": return checks.cost(a[0], a[1]);
            case "skipped": return checks.skipped(a[0]);
            case "tick": return checks.tick(a[0]);
            default: return checks.vehicleAt(a[0], a[1]);
        }
    }
}
