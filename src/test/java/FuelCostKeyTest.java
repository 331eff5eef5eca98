/** Promises 17, 18, 19 and 20: fuel, its use, keys and costs. */
public final class FuelCostKeyTest extends Due {
    public static void main(String[] args) {
        fuel();
        fuelHasRoom();
        using();
        usingIsExact();
        key();
        cost();
        costHasRoom();
        end();
    }

    private static void fuel() {
        VehicleChecks x = withVehicles(0, false, false);
        refuses(UNKNOWN, () -> x.fuel(-1, 1));
        refuses(UNKNOWN, () -> x.fuel(2, 1));
        refuses(UNKNOWN, () -> x.fuel(2, 0));
        refuses(RANGE, () -> x.fuel(0, 0));
        refuses(RANGE, () -> x.fuel(0, -1));
        refuses(RANGE, () -> x.fuel(0, 1_000_001));
        is(1, () -> x.fuel(0, 1));
        is(1_000_001, () -> x.fuel(0, 1_000_000));
        is(5, () -> x.fuel(1, 5));
        is(1_000_003, () -> x.fuel(0, 2));
    }

    /** It takes more than the 512 calls that are promised, but the sum should not run over there either. */
    private static void fuelHasRoom() {
        VehicleChecks x = withVehicles(0, false);
        for (int i = 1; i < 1000; i++) {
            x.fuel(0, 1_000_000);
        }
        is(999_000_001, () -> x.fuel(0, 1));
        refuses(ROOM, () -> x.fuel(0, 1_000_000));
        is(1_000_000_000, () -> x.fuel(0, 999_999));
        refuses(ROOM, () -> x.fuel(0, 1));
        refuses(RANGE, () -> x.fuel(0, 0));
    }

    private static void using() {
        VehicleChecks x = withVehicles(0, false, false);
        refuses(UNKNOWN, () -> x.using(-1, 0));
        refuses(UNKNOWN, () -> x.using(2, 0));
        refuses(UNKNOWN, () -> x.using(0, -1));
        refuses(UNKNOWN, () -> x.using(0, 2));
        refuses(STATE, () -> x.using(0, 0));
        refuses(STATE, () -> x.using(0, 1));
        x.fuel(0, 10);
        refuses(STATE, () -> x.using(0, 0));
        x.use(0, 0);
        refuses(STATE, () -> x.using(0, 1));
        x.use(1, 7);
        fraction(x, 1, 0, 1);
        x.use(0, 1);
        fraction(x, 0, 1000, 1);
        x.use(0, 300);
        fraction(x, 0, 10, 3);
        x.use(0, 299);
        fraction(x, 0, 10, 3);
        x.fuel(0, 1);
        fraction(x, 0, 11, 3);
        x.use(0, 1100);
        fraction(x, 0, 1, 1);
        refuses(UNKNOWN, () -> x.using(0, 2));
    }

    private static void usingIsExact() {
        VehicleChecks x = withVehicles(0, false);
        for (int i = 0; i < 400; i++) {
            x.fuel(0, 1_000_000);
        }
        x.use(0, 1);
        fraction(x, 0, 40_000_000_000L, 1);
        x.use(0, 999_983);
        fraction(x, 0, 40_000_000_000L, 999_983);
        x.use(0, 1_000_000);
        fraction(x, 0, 40_000, 1);
        x.fuel(0, 1);
        fraction(x, 0, 400_000_001, 10_000);
    }

    private static void fraction(VehicleChecks x, int vehicle, long upper, long lower) {
        is(upper, () -> x.using(vehicle, 0));
        is(lower, () -> x.using(vehicle, 1));
    }

    private static void key() {
        VehicleChecks x = withVehicles(0, false, false);
        refuses(UNKNOWN, () -> x.key(-1, 0));
        refuses(UNKNOWN, () -> x.key(2, 0));
        refuses(UNKNOWN, () -> x.key(0, -2));
        refuses(UNKNOWN, () -> x.key(0, 40));
        refuses(STATE, () -> x.key(0, -1));
        is(-1, () -> x.key(0, 0));
        refuses(STATE, () -> x.key(0, 0));
        is(0, () -> x.vehicleAt(0, 5));
        is(0, () -> x.key(0, 39));
        is(-1, () -> x.vehicleAt(1, 5));
        is(-1, () -> x.key(1, 39));
        refuses(UNKNOWN, () -> x.key(0, 40));
        is(39, () -> x.key(0, -1));
        is(-1, () -> x.vehicleAt(0, 5));
        refuses(STATE, () -> x.key(0, -1));
        is(39, () -> x.vehicleAt(1, 5));
    }

    private static void cost() {
        VehicleChecks x = withVehicles(0, false, false);
        refuses(UNKNOWN, () -> x.cost(-1, 1));
        refuses(UNKNOWN, () -> x.cost(2, 1));
        refuses(UNKNOWN, () -> x.cost(2, -1));
        refuses(RANGE, () -> x.cost(0, -1));
        refuses(RANGE, () -> x.cost(0, 10_000_001));
        is(0, () -> x.cost(0, 0));
        is(3, () -> x.cost(0, 3));
        is(3, () -> x.cost(0, 0));
        is(10_000_003, () -> x.cost(0, 10_000_000));
        is(1, () -> x.cost(1, 1));
    }

    private static void costHasRoom() {
        VehicleChecks x = withVehicles(0, false);
        for (int i = 1; i < 100; i++) {
            int want = i * 10_000_000;
            is(want, () -> x.cost(0, 10_000_000));
        }
        is(990_000_001, () -> x.cost(0, 1));
        refuses(ROOM, () -> x.cost(0, 10_000_000));
        is(1_000_000_000, () -> x.cost(0, 9_999_999));
        refuses(ROOM, () -> x.cost(0, 1));
        refuses(RANGE, () -> x.cost(0, 10_000_001));
        refuses(UNKNOWN, () -> x.cost(1, 10_000_001));
        is(1_000_000_000, () -> x.cost(0, 0));
    }
}
