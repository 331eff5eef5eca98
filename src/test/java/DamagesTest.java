/** Promises 11 and 12: damages and their proofs. */
public final class DamagesTest extends Due {
    public static void main(String[] args) {
        damage();
        hundredDamages();
        proof();
        end();
    }

    private static void damage() {
        VehicleChecks x = withVehicles(0, false, false);
        refuses(UNKNOWN, () -> x.damage(-1, 1));
        refuses(UNKNOWN, () -> x.damage(2, 1));
        refuses(UNKNOWN, () -> x.damage(2, 0));
        refuses(RANGE, () -> x.damage(0, 0));
        refuses(RANGE, () -> x.damage(0, 4));
        is(0, () -> x.damage(1, 1));
        is(1, () -> x.damage(0, 2));
        is(2, () -> x.damage(1, 3));
        is(1, () -> x.vehicleAt(0, 4));
        is(2, () -> x.vehicleAt(1, 4));
        is(21001, () -> x.reason(0, 0));
        is(11000, () -> x.reason(1, 0));
        is(31002, () -> x.reason(1, 1));
    }

    private static void hundredDamages() {
        VehicleChecks x = withVehicles(0, false, false);
        for (int d = 0; d < 100; d++) {
            int one = d;
            is(one, () -> x.damage(one % 2, 1));
        }
        refuses(ROOM, () -> x.damage(0, 1));
        refuses(RANGE, () -> x.damage(0, 4));
        refuses(UNKNOWN, () -> x.damage(2, 4));
        refuses(UNKNOWN, () -> x.proof(100, 1));
        is(50, () -> x.vehicleAt(1, 4));
        is(11099, () -> x.reason(1, 49));
        is(-1, () -> x.reason(1, 50));
        does(() -> x.proof(99, 1));
        refuses(ROOM, () -> x.damage(0, 1));
        is(11097, () -> x.reason(1, 48));
        is(-1, () -> x.reason(1, 49));
        is(49, () -> x.vehicleAt(1, 4));
        is(50, () -> x.vehicleAt(0, 4));
    }

    private static void proof() {
        VehicleChecks x = withVehicles(0, false);
        refuses(UNKNOWN, () -> x.proof(0, 1));
        x.damage(0, 3);
        x.damage(0, 2);
        refuses(UNKNOWN, () -> x.proof(-1, 1));
        refuses(UNKNOWN, () -> x.proof(2, 1));
        refuses(UNKNOWN, () -> x.proof(2, 0));
        refuses(RANGE, () -> x.proof(0, 0));
        refuses(RANGE, () -> x.proof(0, -1));
        refuses(RANGE, () -> x.proof(0, 10000));
        is(2, () -> x.vehicleAt(0, 4));
        does(() -> x.proof(0, 9999));
        is(21001, () -> x.reason(0, 0));
        is(-1, () -> x.reason(0, 1));
        refuses(STATE, () -> x.proof(0, 9999));
        refuses(STATE, () -> x.proof(0, 1));
        refuses(RANGE, () -> x.proof(0, 0));
        does(() -> x.proof(1, 1));
        refuses(STATE, () -> x.proof(1, 2));
        is(0, () -> x.vehicleAt(0, 4));
        is(2, () -> x.damage(0, 1));
        is(11002, () -> x.reason(0, 0));
    }
}
