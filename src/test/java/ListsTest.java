/** Promises 1, 3, 4, 5, 6 and 21: lists, answers, what fails and what is skipped. */
public final class ListsTest extends Due {
    public static void main(String[] args) {
        newObject();
        listRefuses();
        listEdges();
        listTakesThePlace();
        listIsOfOneKind();
        unlist();
        unlistKeepsTheAnswer();
        answer();
        answerRefuses();
        refusalsInTheirOrder();
        item();
        failsByTheListAsItIsNow();
        skippedByHours();
        skippedSinceTheVehicleWasTold();
        skippedBehindUses();
        usesWhileOffTheListCount();
        skippedOfAll();
        end();
    }

    private static void newObject() {
        VehicleChecks x = new VehicleChecks();
        refuses(UNKNOWN, () -> x.runs(0));
        refuses(UNKNOWN, () -> x.vehicleAt(0, 0));
        refuses(UNKNOWN, () -> x.proof(0, 1));
        is(-1, () -> x.skipped(0));
        for (int kind = 0; kind < 5; kind++) {
            int k = kind;
            for (int item = 0; item < 10; item++) {
                int i = item;
                refuses(STATE, () -> x.unlist(k, i));
            }
            is(k * 2, () -> x.vehicle(k, false));
            is(k * 2 + 1, () -> x.vehicle(k, true));
            is(k * 2 + 1, () -> x.spare(k * 2));
        }
        is(10, () -> x.tick(5000));
        is(-1, () -> x.skipped(0));
        VehicleChecks y = withVehicles(0, false);
        y.list(0, 0, 0, 0, 1, 3);
        is(0, () -> y.item(0, 0, 5));
        is(1, () -> y.tick(2));
        is(0, () -> y.item(0, 0, 5));
        is(1, () -> y.tick(1));
        is(1, () -> y.item(0, 0, 5));
    }

    private static void listRefuses() {
        VehicleChecks x = withVehicles(0, false);
        refuses(UNKNOWN, () -> x.list(-1, 0, 0, 0, 1, 0));
        refuses(UNKNOWN, () -> x.list(5, 0, 0, 0, 1, 0));
        refuses(UNKNOWN, () -> x.list(0, -1, 0, 0, 1, 0));
        refuses(UNKNOWN, () -> x.list(0, 10, 0, 0, 1, 0));
        refuses(RANGE, () -> x.list(0, 0, -10000, 0, 1, 0));
        refuses(RANGE, () -> x.list(0, 0, 10000, 10000, 1, 0));
        refuses(RANGE, () -> x.list(0, 0, 0, 10000, 1, 0));
        refuses(RANGE, () -> x.list(0, 0, -10001, -10000, 1, 0));
        refuses(RANGE, () -> x.list(0, 0, 1, 0, 1, 0));
        refuses(RANGE, () -> x.list(0, 0, 0, 0, 0, 0));
        refuses(RANGE, () -> x.list(0, 0, 0, 0, 4, 0));
        refuses(RANGE, () -> x.list(0, 0, 0, 0, 1, -1));
        refuses(RANGE, () -> x.list(0, 0, 0, 0, 1, 5001));
        is(0, () -> x.item(0, 0, 0));
    }

    private static void listEdges() {
        VehicleChecks x = withVehicles(4, false);
        does(() -> x.list(4, 9, -9999, 9999, 3, 5000));
        is(true, () -> x.answer(0, 9, -9999, 0));
        is(true, () -> x.answer(0, 9, 9999, 0));
        is(false, () -> x.answer(0, 9, -10000, 0));
        is(false, () -> x.answer(0, 9, 10000, 0));
        is(30009, () -> x.reason(0, 0));
        does(() -> x.list(4, 0, 9999, 9999, 1, 0));
        does(() -> x.list(4, 0, -9999, -9999, 1, 0));
        is(true, () -> x.answer(0, 0, -9999, 0));
    }

    private static void listTakesThePlace() {
        VehicleChecks x = withVehicles(1, false);
        x.list(1, 2, 0, 10, 1, 0);
        x.list(1, 2, 5, 6, 2, 7);
        is(false, () -> x.answer(0, 2, 4, 0));
        is(20002, () -> x.reason(0, 0));
        is(-1, () -> x.reason(0, 1));
        is(false, () -> x.answer(0, 2, 7, 0));
        is(true, () -> x.answer(0, 2, 5, 0));
        is(true, () -> x.use(0, 1));
        is(-1, () -> x.reason(0, 0));
        is(1, () -> x.tick(7));
        is(20102, () -> x.reason(0, 0));
        x.list(1, 2, 5, 6, 3, 7);
        is(30102, () -> x.reason(0, 0));
        x.list(1, 2, 5, 6, 3, 8);
        is(-1, () -> x.reason(0, 0));
        x.list(1, 2, 5, 6, 1, 0);
        is(10102, () -> x.reason(0, 0));
        is(1, () -> x.item(0, 2, 0));
    }

    private static void listIsOfOneKind() {
        VehicleChecks x = new VehicleChecks();
        for (int kind = 0; kind < 5; kind++) {
            x.vehicle(kind, false);
        }
        x.list(3, 4, 0, 0, 1, 1);
        for (int v = 0; v < 5; v++) {
            int one = v;
            is(one == 3 ? 1 : 0, () -> x.item(one, 4, 0));
            is(0, () -> x.item(one, 3, 0));
            is(0, () -> x.item(one, 5, 0));
        }
    }

    private static void unlist() {
        VehicleChecks x = withVehicles(2, false);
        refuses(UNKNOWN, () -> x.unlist(-1, 0));
        refuses(UNKNOWN, () -> x.unlist(5, 0));
        refuses(UNKNOWN, () -> x.unlist(2, -1));
        refuses(UNKNOWN, () -> x.unlist(2, 10));
        refuses(STATE, () -> x.unlist(2, 0));
        x.list(2, 0, 0, 0, 3, 1);
        x.list(2, 9, 0, 0, 3, 1);
        refuses(STATE, () -> x.unlist(1, 0));
        is(1, () -> x.item(0, 0, 0));
        is(0, () -> x.tick(1));
        does(() -> x.unlist(2, 0));
        refuses(STATE, () -> x.unlist(2, 0));
        is(0, () -> x.item(0, 0, 0));
        is(0, () -> x.item(0, 0, 5));
        is(30109, () -> x.reason(0, 0));
        does(() -> x.unlist(2, 9));
        is(-1, () -> x.reason(0, 0));
        is(true, () -> x.runs(0));
    }

    private static void unlistKeepsTheAnswer() {
        VehicleChecks x = withVehicles(0, false);
        x.tick(5);
        x.list(0, 1, 0, 9, 3, 0);
        x.answer(0, 1, 12, 6);
        is(1, () -> x.item(0, 1, 4));
        x.unlist(0, 1);
        is(0, () -> x.item(0, 1, 0));
        is(12, () -> x.item(0, 1, 1));
        is(5, () -> x.item(0, 1, 2));
        is(6, () -> x.item(0, 1, 3));
        is(0, () -> x.item(0, 1, 4));
        is(true, () -> x.runs(0));
        refuses(STATE, () -> x.answer(0, 1, 0, 0));
        x.list(0, 1, 0, 9, 3, 0);
        is(1, () -> x.item(0, 1, 4));
        is(30001, () -> x.reason(0, 0));
    }

    private static void answer() {
        VehicleChecks x = withVehicles(0, false, false);
        x.list(0, 0, -3, 4, 1, 0);
        is(true, () -> x.answer(0, 0, -3, 0));
        is(true, () -> x.answer(0, 0, 4, 39));
        is(0, () -> x.item(0, 0, 4));
        is(false, () -> x.answer(0, 0, -4, 0));
        is(1, () -> x.item(0, 0, 4));
        is(false, () -> x.answer(0, 0, 5, 0));
        is(1, () -> x.item(0, 0, 4));
        is(false, () -> x.answer(0, 0, -99999, 0));
        is(-99999, () -> x.item(0, 0, 1));
        is(false, () -> x.answer(0, 0, 99999, 0));
        is(99999, () -> x.item(0, 0, 1));
        is(-1, () -> x.item(1, 0, 2));
    }

    private static void answerRefuses() {
        VehicleChecks x = withVehicles(0, false);
        x.list(0, 0, 0, 0, 3, 0);
        refuses(UNKNOWN, () -> x.answer(-1, 0, 0, 0));
        refuses(UNKNOWN, () -> x.answer(1, 0, 0, 0));
        refuses(UNKNOWN, () -> x.answer(0, -1, 0, 0));
        refuses(UNKNOWN, () -> x.answer(0, 10, 0, 0));
        refuses(UNKNOWN, () -> x.answer(0, 0, 0, -1));
        refuses(UNKNOWN, () -> x.answer(0, 0, 0, 40));
        refuses(RANGE, () -> x.answer(0, 0, -100000, 0));
        refuses(RANGE, () -> x.answer(0, 0, 100000, 0));
        refuses(STATE, () -> x.answer(0, 1, 0, 0));
        is(-1, () -> x.item(0, 0, 2));
        is(-1, () -> x.item(0, 1, 2));
        is(0, () -> x.item(0, 0, 1));
    }

    private static void refusalsInTheirOrder() {
        VehicleChecks x = withVehicles(0, false);
        refuses(UNKNOWN, () -> x.list(0, 10, 5, 4, 9, -1));
        refuses(UNKNOWN, () -> x.list(5, 0, 5, 4, 9, -1));
        refuses(UNKNOWN, () -> x.answer(0, 0, 100000, 40));
        refuses(UNKNOWN, () -> x.answer(0, 10, 100000, 0));
        refuses(RANGE, () -> x.answer(0, 0, 100000, 0));
        refuses(UNKNOWN, () -> x.answer(0, 0, 0, 40));
        refuses(STATE, () -> x.answer(0, 0, 0, 39));
    }

    private static void item() {
        VehicleChecks x = withVehicles(3, false, false);
        refuses(UNKNOWN, () -> x.item(-1, 0, 0));
        refuses(UNKNOWN, () -> x.item(2, 0, 0));
        refuses(UNKNOWN, () -> x.item(0, -1, 0));
        refuses(UNKNOWN, () -> x.item(0, 10, 0));
        refuses(UNKNOWN, () -> x.item(0, 0, -1));
        refuses(UNKNOWN, () -> x.item(0, 0, 6));
        items(x, 0, 7, 0, 0, -1, -1, 0, 0);
        x.list(3, 7, 1, 2, 1, 4);
        items(x, 0, 7, 1, 0, -1, -1, 0, 0);
        x.tick(3);
        x.answer(0, 7, 3, 8);
        items(x, 0, 7, 1, 3, 3, 8, 1, 0);
        x.tick(4);
        items(x, 0, 7, 1, 3, 3, 8, 1, 1);
        x.answer(0, 7, 2, 0);
        items(x, 0, 7, 1, 2, 7, 0, 0, 0);
        items(x, 1, 7, 1, 0, -1, -1, 0, 1);
        items(x, 0, 6, 0, 0, -1, -1, 0, 0);
        x.unlist(3, 7);
        is(0, () -> x.item(1, 7, 5));
    }

    private static void items(VehicleChecks x, int vehicle, int item, int... want) {
        for (int what = 0; what < want.length; what++) {
            int w = what;
            is(want[w], () -> x.item(vehicle, item, w));
        }
    }

    private static void failsByTheListAsItIsNow() {
        VehicleChecks x = withVehicles(0, false);
        x.list(0, 0, 10, 20, 1, 5);
        x.answer(0, 0, 15, 0);
        is(0, () -> x.item(0, 0, 4));
        x.list(0, 0, 16, 20, 1, 5);
        is(1, () -> x.item(0, 0, 4));
        x.list(0, 0, 10, 14, 2, 5);
        is(20000, () -> x.reason(0, 0));
        x.list(0, 0, 15, 15, 2, 5);
        is(0, () -> x.item(0, 0, 4));
        x.list(0, 1, 5, 6, 1, 5);
        is(0, () -> x.item(0, 1, 4));
    }

    private static void skippedByHours() {
        VehicleChecks x = withVehicles(0, false);
        x.tick(10);
        x.list(0, 0, 0, 0, 1, 3);
        is(1, () -> x.item(0, 0, 5));
        x.answer(0, 0, 0, 0);
        is(0, () -> x.item(0, 0, 5));
        x.use(0, 1);
        is(0, () -> x.item(0, 0, 5));
        x.tick(2);
        is(0, () -> x.item(0, 0, 5));
        x.tick(1);
        is(1, () -> x.item(0, 0, 5));
        x.answer(0, 0, 7, 0);
        is(0, () -> x.item(0, 0, 5));
        x.list(0, 0, 0, 0, 1, 5000);
        x.tick(4999);
        is(0, () -> x.item(0, 0, 5));
        x.tick(1);
        is(1, () -> x.item(0, 0, 5));
    }

    private static void skippedSinceTheVehicleWasTold() {
        VehicleChecks x = new VehicleChecks();
        x.list(0, 0, 0, 0, 1, 3);
        x.tick(100);
        x.vehicle(0, false);
        is(0, () -> x.item(0, 0, 5));
        x.tick(2);
        is(0, () -> x.item(0, 0, 5));
        x.tick(1);
        is(1, () -> x.item(0, 0, 5));
        VehicleChecks y = withVehicles(0, false);
        y.list(0, 0, 0, 0, 1, 3);
        y.answer(0, 0, 0, 0);
        y.tick(2);
        is(0, () -> y.item(0, 0, 5));
        y.tick(1);
        is(1, () -> y.item(0, 0, 5));
    }

    private static void skippedBehindUses() {
        VehicleChecks x = withVehicles(0, false, false);
        x.list(0, 0, 0, 0, 1, 0);
        x.tick(5000);
        is(0, () -> x.item(0, 0, 5));
        x.use(0, 5);
        is(1, () -> x.item(0, 0, 5));
        is(0, () -> x.item(1, 0, 5));
        x.answer(0, 0, 9, 0);
        is(0, () -> x.item(0, 0, 5));
        is(1, () -> x.item(0, 0, 4));
        is(false, () -> x.use(0, 4));
        is(1, () -> x.item(0, 0, 5));
        x.use(0, 6);
        x.answer(0, 0, 0, 0);
        is(0, () -> x.item(0, 0, 5));
        x.list(0, 1, 0, 0, 1, 0);
        is(1, () -> x.item(0, 1, 5));
        is(0, () -> x.item(1, 1, 5));
    }

    private static void usesWhileOffTheListCount() {
        VehicleChecks x = withVehicles(0, false);
        x.list(0, 0, 0, 0, 1, 0);
        x.answer(0, 0, 0, 0);
        x.unlist(0, 0);
        x.use(0, 1);
        is(0, () -> x.item(0, 0, 5));
        x.list(0, 0, 0, 0, 1, 0);
        is(1, () -> x.item(0, 0, 5));
    }

    private static void skippedOfAll() {
        VehicleChecks x = new VehicleChecks();
        refuses(RANGE, () -> x.skipped(-1));
        refuses(RANGE, () -> x.skipped(Integer.MIN_VALUE));
        for (int v = 0; v < 20; v++) {
            x.vehicle(v % 2, false);
        }
        x.list(0, 0, 0, 0, 3, 2);
        x.list(0, 9, 0, 0, 3, 2);
        x.list(1, 4, 0, 0, 3, 3);
        is(-1, () -> x.skipped(0));
        x.tick(2);
        is(0, () -> x.skipped(0));
        is(9, () -> x.skipped(1));
        is(20, () -> x.skipped(2));
        is(189, () -> x.skipped(19));
        is(-1, () -> x.skipped(20));
        x.tick(1);
        is(14, () -> x.skipped(2));
        is(20, () -> x.skipped(3));
        is(194, () -> x.skipped(29));
        is(-1, () -> x.skipped(30));
        is(-1, () -> x.skipped(Integer.MAX_VALUE));
        x.off(0, true, 0, 1);
        is(14, () -> x.skipped(0));
        is(-1, () -> x.skipped(28));
        x.off(0, false, 0, 1);
        is(0, () -> x.skipped(0));
        x.answer(0, 0, 5, 0);
        is(9, () -> x.skipped(0));
    }
}
