/** Promises 13, 14, 15 and 16: what is needed, put and swapped, and spare vehicles. */
public final class ThingsTest extends Due {
    public static void main(String[] args) {
        need();
        put();
        swap();
        spareIsTheOneWithTheFewestKilometres();
        spareIsOfItsKindSpareAndRuns();
        spareOfTwenty();
        spareLacks();
        end();
    }

    private static void need() {
        VehicleChecks x = withVehicles(0, true, false);
        x.vehicle(1, true);
        x.vehicle(1, false);
        refuses(UNKNOWN, () -> x.need(-1, 0, 1));
        refuses(UNKNOWN, () -> x.need(5, 0, 1));
        refuses(UNKNOWN, () -> x.need(0, -1, 1));
        refuses(UNKNOWN, () -> x.need(0, 10, 1));
        refuses(UNKNOWN, () -> x.need(0, 10, 10));
        refuses(RANGE, () -> x.need(0, 0, -1));
        refuses(RANGE, () -> x.need(0, 0, 10));
        is(0, () -> x.spare(1));
        does(() -> x.need(0, 9, 9));
        is(-11, () -> x.spare(1));
        is(2, () -> x.spare(3));
        x.put(0, 9, 8);
        is(-11, () -> x.spare(1));
        does(() -> x.need(0, 9, 8));
        is(0, () -> x.spare(1));
        does(() -> x.need(0, 0, 1));
        is(-2, () -> x.spare(1));
        does(() -> x.need(0, 0, 0));
        is(0, () -> x.spare(1));
    }

    private static void put() {
        VehicleChecks x = withVehicles(0, false, false);
        refuses(UNKNOWN, () -> x.put(-1, 0, 1));
        refuses(UNKNOWN, () -> x.put(2, 0, 1));
        refuses(UNKNOWN, () -> x.put(0, -1, 1));
        refuses(UNKNOWN, () -> x.put(0, 10, 1));
        refuses(UNKNOWN, () -> x.put(0, 10, 0));
        refuses(RANGE, () -> x.put(0, 0, 0));
        refuses(RANGE, () -> x.put(0, 0, -1));
        refuses(RANGE, () -> x.put(0, 0, 10));
        is(1, () -> x.put(0, 0, 1));
        is(10, () -> x.put(0, 0, 9));
        is(9, () -> x.put(0, 9, 9));
        is(2, () -> x.put(1, 0, 2));
        for (int n = 19; n <= 91; n += 9) {
            int want = n;
            is(want, () -> x.put(0, 0, 9));
        }
        refuses(ROOM, () -> x.put(0, 0, 9));
        refuses(RANGE, () -> x.put(0, 0, 10));
        is(99, () -> x.put(0, 0, 8));
        refuses(ROOM, () -> x.put(0, 0, 1));
        is(10, () -> x.put(0, 9, 1));
    }

    private static void swap() {
        VehicleChecks x = withVehicles(0, false, false);
        x.vehicle(3, true);
        refuses(UNKNOWN, () -> x.swap(-1, 0, 0));
        refuses(UNKNOWN, () -> x.swap(3, 0, 0));
        refuses(UNKNOWN, () -> x.swap(0, -1, 0));
        refuses(UNKNOWN, () -> x.swap(0, 3, 0));
        refuses(UNKNOWN, () -> x.swap(3, 3, 0));
        refuses(UNKNOWN, () -> x.swap(1, 1, 0));
        refuses(UNKNOWN, () -> x.swap(0, 1, -1));
        refuses(UNKNOWN, () -> x.swap(0, 1, 10));
        refuses(STATE, () -> x.swap(0, 1, 0));
        x.put(0, 4, 7);
        x.put(1, 4, 2);
        x.put(0, 5, 3);
        is(2, () -> x.swap(0, 1, 4));
        is(3, () -> x.put(0, 4, 1));
        is(8, () -> x.put(1, 4, 1));
        is(4, () -> x.put(0, 5, 1));
        is(0, () -> x.swap(1, 2, 4));
        is(0, () -> x.swap(0, 2, 5));
        is(8, () -> x.swap(0, 2, 4));
        is(4, () -> x.put(2, 4, 1));
        x.put(1, 4, 8);
        refuses(STATE, () -> x.swap(0, 1, 4));
        refuses(STATE, () -> x.swap(1, 0, 4));
        is(9, () -> x.put(0, 4, 1));
    }

    private static void spareIsTheOneWithTheFewestKilometres() {
        VehicleChecks x = withVehicles(2, false, true, true, true);
        refuses(UNKNOWN, () -> x.spare(-1));
        refuses(UNKNOWN, () -> x.spare(4));
        is(1, () -> x.spare(0));
        is(2, () -> x.spare(1));
        is(1, () -> x.spare(2));
        x.use(1, 10);
        is(2, () -> x.spare(0));
        x.use(2, 10);
        is(3, () -> x.spare(0));
        x.use(3, 10);
        is(1, () -> x.spare(0));
        x.use(1, 12);
        x.use(3, 11);
        is(2, () -> x.spare(0));
        is(3, () -> x.spare(2));
        x.use(3, 12);
        is(1, () -> x.spare(2));
    }

    private static void spareIsOfItsKindSpareAndRuns() {
        VehicleChecks x = withVehicles(2, false, false);
        x.vehicle(1, true);
        is(-1, () -> x.spare(0));
        is(-1, () -> x.spare(2));
        x.vehicle(2, true);
        is(3, () -> x.spare(0));
        is(-1, () -> x.spare(3));
        x.vehicle(2, true);
        is(4, () -> x.spare(3));
        x.off(3, true, 0, 1);
        is(4, () -> x.spare(0));
        x.damage(4, 3);
        is(-1, () -> x.spare(0));
        x.proof(0, 1);
        x.damage(4, 2);
        is(4, () -> x.spare(0));
        x.damage(4, 2);
        is(-1, () -> x.spare(0));
        x.off(3, false, 0, 1);
        is(3, () -> x.spare(0));
        x.off(0, true, 0, 1);
        is(3, () -> x.spare(0));
        is(-1, () -> x.spare(3));
    }

    private static void spareOfTwenty() {
        VehicleChecks x = new VehicleChecks();
        for (int v = 0; v < 20; v++) {
            x.vehicle(0, true);
        }
        for (int v = 0; v < 19; v++) {
            x.use(v, 20 - v);
        }
        is(19, () -> x.spare(0));
        is(18, () -> x.spare(19));
        x.use(19, 20);
        is(18, () -> x.spare(0));
    }

    private static void spareLacks() {
        VehicleChecks x = withVehicles(4, false, true, true);
        x.need(4, 2, 3);
        x.need(4, 7, 1);
        x.put(0, 2, 9);
        x.put(2, 2, 3);
        x.put(2, 7, 1);
        is(-4, () -> x.spare(0));
        x.put(1, 2, 2);
        is(-4, () -> x.spare(0));
        x.put(1, 2, 1);
        is(-9, () -> x.spare(0));
        x.use(1, 1);
        is(2, () -> x.spare(0));
        is(-9, () -> x.spare(2));
        x.swap(1, 2, 7);
        is(-9, () -> x.spare(0));
        is(1, () -> x.spare(2));
        x.put(2, 7, 9);
        is(2, () -> x.spare(0));
    }
}
