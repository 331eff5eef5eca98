import java.util.function.LongSupplier;

/**
 * All that calls can tell of an object with up to three vehicles, as one text. It takes some 350 calls, and the
 * last of them change the object: it is of no use behind the look.
 */
final class Look {
    private static final int MOST_VEHICLES = 3;
    private static final int MOST_REASONS = 12;
    private static final int MOST_SKIPPED = 20;

    private final VehicleChecks x;
    private final StringBuilder text = new StringBuilder();

    private Look(VehicleChecks looked) {
        x = looked;
    }

    static String at(VehicleChecks looked) {
        Look look = new Look(looked);
        int vehicles = 0;
        while (vehicles < MOST_VEHICLES && look.tell("runs " + vehicles, runs(looked, vehicles))) {
            look.vehicle(vehicles);
            vehicles++;
        }
        look.skipped();
        for (int v = 0; v < vehicles; v++) {
            look.sums(v);
        }
        look.numbersAndHour();
        return look.text.toString();
    }

    private static LongSupplier runs(VehicleChecks x, int vehicle) {
        return () -> x.runs(vehicle) ? 1 : 0;
    }

    private boolean tell(String name, LongSupplier call) {
        text.append(name).append(' ');
        try {
            text.append(call.getAsLong()).append("; ");
            return true;
        } catch (RuntimeException e) {
            text.append(e.getClass().getSimpleName()).append("; ");
            return false;
        }
    }

    private void vehicle(int v) {
        for (int item = 0; item < 10; item++) {
            for (int what = 0; what < 6; what++) {
                int i = item;
                int w = what;
                tell("item " + v + " " + i + " " + w, () -> x.item(v, i, w));
            }
        }
        for (int what = 0; what < 6; what++) {
            int w = what;
            tell("vehicleAt " + v + " " + w, () -> x.vehicleAt(v, w));
        }
        int reason = 0;
        for (int i = 0; i < MOST_REASONS && reason != -1; i++) {
            reason = x.reason(v, i);
            text.append("reason ").append(v).append(' ').append(reason).append("; ");
        }
        tell("spare " + v, () -> x.spare(v));
        tell("using " + v + " 0", () -> x.using(v, 0));
        tell("using " + v + " 1", () -> x.using(v, 1));
    }

    private void skipped() {
        int skipped = 0;
        for (int i = 0; i < MOST_SKIPPED && skipped != -1; i++) {
            skipped = x.skipped(i);
            text.append("skipped ").append(skipped).append("; ");
        }
    }

    private void sums(int v) {
        for (int thing = 0; thing < 10; thing++) {
            int t = thing;
            tell("put " + v + " " + t, () -> x.put(v, t, 1));
        }
        tell("fuel " + v, () -> x.fuel(v, 1));
        tell("cost " + v, () -> x.cost(v, 0));
    }

    private void numbersAndHour() {
        tell("list", () -> {
            x.list(0, 0, 0, 0, 1, 1);
            return 0;
        });
        tell("answer", () -> x.answer(0, 0, 0, 0) ? 1 : 0);
        tell("hour", () -> x.item(0, 0, 2));
        tell("damage", () -> x.damage(0, 1));
        tell("vehicle", () -> x.vehicle(0, false));
        tell("tick", () -> x.tick(1));
    }
}
