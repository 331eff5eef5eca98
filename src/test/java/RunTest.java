/** Promises 2, 7, 8, 9, 10, 22 and 23: vehicles, uses, whether they run, reasons, off and on, time. */
public final class RunTest extends Due {
    public static void main(String[] args) {
        vehicle();
        use();
        useRefuses();
        runsByGrades();
        failingAndSkippedAreTwoReasons();
        gradesOfSeveralItemsAddUp();
        reasonsInTheirOrder();
        reasonRefuses();
        off();
        tick();
        tickCounts();
        vehicleAt();
        end();
    }

    private static void vehicle() {
        VehicleChecks x = new VehicleChecks();
        refuses(UNKNOWN, () -> x.vehicle(-1, false));
        refuses(UNKNOWN, () -> x.vehicle(5, false));
        for (int v = 0; v < 20; v++) {
            int one = v;
            refuses(UNKNOWN, () -> x.vehicleAt(one, 0));
            is(one, () -> x.vehicle(one % 5, one % 2 == 0));
            is(true, () -> x.runs(one));
        }
        refuses(ROOM, () -> x.vehicle(0, false));
        refuses(UNKNOWN, () -> x.vehicle(5, false));
        refuses(UNKNOWN, () -> x.vehicle(-1, false));
        refuses(UNKNOWN, () -> x.runs(20));
    }

    private static void use() {
        VehicleChecks x = withVehicles(0, false, false);
        is(true, () -> x.use(0, 0));
        is(true, () -> x.use(0, 10));
        is(true, () -> x.use(0, 10));
        is(false, () -> x.use(0, 9));
        at(x, 0, 10, 1, 1, 4, 0, -1);
        is(false, () -> x.use(0, 0));
        at(x, 0, 10, 1, 2, 5, 0, -1);
        is(true, () -> x.use(0, 1_000_000));
        at(x, 0, 1_000_000, 1, 2, 6, 0, -1);
        at(x, 1, 0, 1, 0, 0, 0, -1);
    }

    private static void useRefuses() {
        VehicleChecks x = withVehicles(0, false);
        refuses(UNKNOWN, () -> x.use(-1, 0));
        refuses(UNKNOWN, () -> x.use(1, 0));
        refuses(UNKNOWN, () -> x.use(1, -1));
        refuses(RANGE, () -> x.use(0, -1));
        refuses(RANGE, () -> x.use(0, 1_000_001));
        x.list(0, 0, 0, 0, 1, 0);
        x.off(0, true, 0, 1);
        refuses(STATE, () -> x.use(0, 5));
        refuses(RANGE, () -> x.use(0, -1));
        at(x, 0, 0, 0, 0, 0, 0, -1);
        is(0, () -> x.item(0, 0, 5));
        x.off(0, false, 0, 1);
        x.damage(0, 3);
        refuses(STATE, () -> x.use(0, 5));
        x.proof(0, 1);
        is(true, () -> x.use(0, 5));
    }

    private static void runsByGrades() {
        refuses(UNKNOWN, () -> new VehicleChecks().runs(0));
        VehicleChecks x = withVehicles(0, false);
        refuses(UNKNOWN, () -> x.runs(-1));
        refuses(UNKNOWN, () -> x.runs(1));
        for (int i = 0; i < 5; i++) {
            x.damage(0, 1);
            is(true, () -> x.runs(0));
        }
        x.list(0, 0, 0, 0, 1, 0);
        x.list(0, 1, 0, 0, 1, 1);
        x.answer(0, 0, 1, 0);
        x.tick(1);
        is(true, () -> x.runs(0));
        x.list(0, 0, 0, 0, 2, 0);
        is(true, () -> x.runs(0));
        x.list(0, 1, 0, 0, 2, 1);
        is(false, () -> x.runs(0));
        x.list(0, 0, 0, 0, 1, 0);
        is(true, () -> x.runs(0));
        int damage = x.damage(0, 2);
        is(false, () -> x.runs(0));
        x.proof(damage, 1);
        is(true, () -> x.runs(0));
        x.list(0, 1, 0, 0, 3, 1);
        is(false, () -> x.runs(0));
        x.answer(0, 1, 0, 0);
        is(true, () -> x.runs(0));
        x.list(0, 0, 0, 0, 3, 0);
        is(false, () -> x.runs(0));
        x.answer(0, 0, 0, 0);
        is(true, () -> x.runs(0));
        x.damage(0, 3);
        is(false, () -> x.runs(0));
    }

    private static void failingAndSkippedAreTwoReasons() {
        VehicleChecks x = withVehicles(0, false);
        x.list(0, 6, 0, 0, 2, 1);
        x.answer(0, 6, 1, 0);
        is(true, () -> x.runs(0));
        is(0, () -> x.tick(1));
        is(20006, () -> x.reason(0, 0));
        is(20106, () -> x.reason(0, 1));
        is(-1, () -> x.reason(0, 2));
    }

    private static void gradesOfSeveralItemsAddUp() {
        for (int mild = 0; mild < 3; mild++) {
            VehicleChecks x = withVehicles(0, false, false);
            for (int item = 0; item < 3; item++) {
                x.list(0, item, 0, 0, item == mild ? 1 : 2, 1);
            }
            for (int item = 0; item < 3; item++) {
                x.answer(0, item, item == 1 ? 0 : 1, 0);
            }
            boolean oneFails = mild != 1;
            is(oneFails, () -> x.runs(0));
            is(0, () -> x.tick(1));
            is(false, () -> x.runs(1));
        }
        VehicleChecks y = withVehicles(0, false);
        y.list(0, 0, 0, 0, 2, 0);
        y.list(0, 1, 0, 0, 2, 0);
        y.list(0, 2, 0, 0, 1, 0);
        is(true, () -> y.use(0, 1));
        is(false, () -> y.runs(0));
        y.answer(0, 0, 1, 0);
        is(false, () -> y.runs(0));
        y.answer(0, 1, 0, 0);
        is(true, () -> y.runs(0));
        is(20000, () -> y.reason(0, 0));
        is(10102, () -> y.reason(0, 1));
    }

    private static void reasonsInTheirOrder() {
        VehicleChecks x = withVehicles(0, false, false);
        x.damage(1, 3);
        x.damage(0, 1);
        x.damage(1, 3);
        x.damage(0, 3);
        x.list(0, 9, 0, 0, 1, 1);
        x.list(0, 5, 0, 0, 2, 2);
        x.list(0, 0, 0, 0, 3, 1);
        x.answer(0, 9, 1, 0);
        x.tick(1);
        x.answer(0, 5, 1, 0);
        x.answer(0, 0, 0, 0);
        x.tick(1);
        reasons(x, 0, 20005, 10009, 30100, 10109, 11001, 31003);
        reasons(x, 1, 30100, 20105, 10109, 31000, 31002);
        x.off(0, true, 0, 1);
        reasons(x, 0, 20005, 10009, 30100, 10109, 11001, 31003);
        x.proof(1, 9999);
        reasons(x, 0, 20005, 10009, 30100, 10109, 31003);
        x.unlist(0, 9);
        reasons(x, 0, 20005, 30100, 31003);
        is(-1, () -> x.reason(0, Integer.MAX_VALUE));
    }

    private static void reasons(VehicleChecks x, int vehicle, int... want) {
        for (int i = 0; i < want.length; i++) {
            int place = i;
            is(want[place], () -> x.reason(vehicle, place));
        }
        is(-1, () -> x.reason(vehicle, want.length));
        is(-1, () -> x.reason(vehicle, want.length + 1));
    }

    private static void reasonRefuses() {
        VehicleChecks x = withVehicles(0, false);
        refuses(UNKNOWN, () -> x.reason(-1, 0));
        refuses(UNKNOWN, () -> x.reason(1, 0));
        refuses(UNKNOWN, () -> x.reason(1, -1));
        refuses(RANGE, () -> x.reason(0, -1));
        refuses(RANGE, () -> x.reason(0, Integer.MIN_VALUE));
        is(-1, () -> x.reason(0, 0));
    }

    private static void off() {
        VehicleChecks x = withVehicles(0, false, false);
        refuses(UNKNOWN, () -> x.off(-1, true, 0, 1));
        refuses(UNKNOWN, () -> x.off(2, true, 0, 1));
        refuses(UNKNOWN, () -> x.off(0, true, -1, 1));
        refuses(UNKNOWN, () -> x.off(0, true, 40, 1));
        refuses(UNKNOWN, () -> x.off(0, true, 1, -1));
        refuses(UNKNOWN, () -> x.off(0, true, 1, 40));
        refuses(UNKNOWN, () -> x.off(0, true, 40, 40));
        refuses(UNKNOWN, () -> x.off(0, false, 0, 40));
        refuses(STATE, () -> x.off(0, true, 7, 7));
        refuses(STATE, () -> x.off(0, false, 0, 1));
        is(true, () -> x.runs(0));
        does(() -> x.off(0, true, 0, 39));
        is(false, () -> x.runs(0));
        is(true, () -> x.runs(1));
        is(-1, () -> x.reason(0, 0));
        refuses(STATE, () -> x.off(0, true, 0, 1));
        refuses(STATE, () -> x.off(0, false, 39, 39));
        is(0, () -> x.vehicleAt(0, 1));
        does(() -> x.off(0, false, 39, 0));
        is(1, () -> x.vehicleAt(0, 1));
        is(true, () -> x.runs(0));
    }

    private static void tick() {
        VehicleChecks x = withVehicles(0, false);
        refuses(RANGE, () -> x.tick(0));
        refuses(RANGE, () -> x.tick(-1));
        refuses(RANGE, () -> x.tick(5001));
        refuses(RANGE, () -> x.tick(Integer.MAX_VALUE));
        refuses(RANGE, () -> x.tick(Integer.MIN_VALUE));
        x.list(0, 0, 0, 0, 1, 0);
        for (int i = 0; i < 19; i++) {
            is(1, () -> x.tick(5000));
        }
        refuses(RANGE, () -> x.tick(5000));
        is(1, () -> x.tick(4999));
        refuses(RANGE, () -> x.tick(1));
        x.answer(0, 0, 0, 0);
        is(99999, () -> x.item(0, 0, 2));
    }

    private static void tickCounts() {
        VehicleChecks x = withVehicles(0, false, true, false);
        is(0, () -> new VehicleChecks().tick(1));
        x.vehicle(1, false);
        is(4, () -> x.tick(1));
        x.off(1, true, 0, 1);
        is(3, () -> x.tick(1));
        x.damage(3, 3);
        is(2, () -> x.tick(1));
        x.list(0, 0, 0, 0, 3, 10);
        is(2, () -> x.tick(6));
        x.answer(0, 0, 0, 0);
        is(1, () -> x.tick(1));
    }

    private static void vehicleAt() {
        VehicleChecks x = withVehicles(0, false, true);
        refuses(UNKNOWN, () -> x.vehicleAt(-1, 0));
        refuses(UNKNOWN, () -> x.vehicleAt(2, 0));
        refuses(UNKNOWN, () -> x.vehicleAt(0, -1));
        refuses(UNKNOWN, () -> x.vehicleAt(0, 6));
        at(x, 0, 0, 1, 0, 0, 0, -1);
        x.use(1, 30);
        x.use(1, 20);
        x.use(1, 25);
        x.key(1, 0);
        x.damage(0, 1);
        x.damage(1, 3);
        x.damage(1, 1);
        x.damage(1, 1);
        x.proof(2, 4);
        x.off(1, true, 2, 3);
        at(x, 0, 0, 1, 0, 0, 1, -1);
        at(x, 1, 30, 0, 2, 3, 2, 0);
    }

    private static void at(VehicleChecks x, int vehicle, int... want) {
        for (int what = 0; what < want.length; what++) {
            int w = what;
            is(want[w], () -> x.vehicleAt(vehicle, w));
        }
    }
}
