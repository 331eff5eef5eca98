import java.util.function.Consumer;
import java.util.function.Supplier;

/** The section "Terms" on refusals: which exception, the first that is so; and a refused call leaves all as it was. */
final class RefusalSentences extends Sentences {
    static void all() {
        sentence("Terms", "Refusals: unknown numbers IllegalArgumentException,", RefusalSentences::unknownNumbers);
        sentence("Terms", "outside of a range IndexOutOfBoundsException,", RefusalSentences::outsideOfARange);
        sentence("Terms", "not in this state IllegalStateException,", RefusalSentences::notInThisState);
        sentence("Terms", "no room UnsupportedOperationException;", RefusalSentences::noRoom);
        sentence("Terms", "the first of these that is so.", RefusalSentences::theFirstThatIsSo);
        sentence("What it is", "An object is used for at most 512 calls after it has been made;",
            RefusalSentences::fiveHundredAndTwelveCalls);
    }

    private static void leaves(Class<? extends RuntimeException> want, Consumer<VehicleChecks> call) {
        leaves(RefusalSentences::standing, want, call);
    }

    private static void leaves(Supplier<VehicleChecks> made, Class<? extends RuntimeException> want,
            Consumer<VehicleChecks> call) {
        VehicleChecks x = made.get();
        refuses(want, () -> call.accept(x));
        compare(Look.at(made.get()), Look.at(x));
    }

    /** Something of everything, so that whatever a refused call would change can be seen. */
    private static VehicleChecks standing() {
        VehicleChecks x = withVehicles(0, false, true);
        x.vehicle(4, true);
        x.list(0, 3, -5, 5, 1, 0);
        x.list(0, 4, 0, 9, 2, 10);
        x.list(4, 9, 0, 0, 3, 1);
        x.tick(3);
        x.answer(0, 3, 9, 7);
        x.answer(1, 4, 9, 8);
        x.use(0, 100);
        x.use(0, 90);
        x.damage(0, 1);
        x.damage(1, 2);
        x.proof(0, 5);
        x.need(0, 2, 1);
        x.put(0, 2, 3);
        x.put(1, 2, 1);
        x.fuel(0, 500);
        x.cost(0, 70);
        x.key(0, 6);
        x.off(2, true, 0, 1);
        x.tick(6);
        return x;
    }

    private static void unknownNumbers() {
        leaves(UNKNOWN, x -> x.vehicle(5, true));
        leaves(UNKNOWN, x -> x.list(5, 3, 0, 0, 3, 1));
        leaves(UNKNOWN, x -> x.list(0, 10, 0, 0, 3, 1));
        leaves(UNKNOWN, x -> x.unlist(-1, 3));
        leaves(UNKNOWN, x -> x.unlist(0, -1));
        leaves(UNKNOWN, x -> x.answer(3, 3, 0, 0));
        leaves(UNKNOWN, x -> x.answer(0, 10, 0, 0));
        leaves(UNKNOWN, x -> x.answer(0, 3, 0, 40));
        leaves(UNKNOWN, x -> x.item(3, 3, 0));
        leaves(UNKNOWN, x -> x.use(3, 200));
        leaves(UNKNOWN, x -> x.runs(3));
        leaves(UNKNOWN, x -> x.reason(3, 0));
        leaves(UNKNOWN, x -> x.off(3, true, 0, 1));
        leaves(UNKNOWN, x -> x.off(0, true, 0, 40));
        leaves(UNKNOWN, x -> x.off(0, true, -1, 0));
        leaves(UNKNOWN, x -> x.damage(3, 3));
        leaves(UNKNOWN, x -> x.proof(2, 1));
        leaves(UNKNOWN, x -> x.need(5, 0, 1));
        leaves(UNKNOWN, x -> x.need(0, 10, 1));
        leaves(UNKNOWN, x -> x.put(3, 0, 1));
        leaves(UNKNOWN, x -> x.put(0, -1, 1));
        leaves(UNKNOWN, x -> x.swap(0, 3, 2));
        leaves(UNKNOWN, x -> x.swap(0, 0, 2));
        leaves(UNKNOWN, x -> x.swap(0, 1, 10));
        leaves(UNKNOWN, x -> x.spare(3));
        leaves(UNKNOWN, x -> x.fuel(3, 1));
        leaves(UNKNOWN, x -> x.using(3, 0));
        leaves(UNKNOWN, x -> x.key(3, 0));
        leaves(UNKNOWN, x -> x.key(0, 40));
        leaves(UNKNOWN, x -> x.key(0, -2));
        leaves(UNKNOWN, x -> x.cost(3, 1));
        leaves(UNKNOWN, x -> x.vehicleAt(3, 0));
    }

    private static void outsideOfARange() {
        leaves(RANGE, x -> x.list(0, 3, 1, 0, 3, 1));
        leaves(RANGE, x -> x.list(0, 3, -10_000, 0, 3, 1));
        leaves(RANGE, x -> x.list(0, 3, 0, 10_000, 3, 1));
        leaves(RANGE, x -> x.list(0, 3, 0, 0, 4, 1));
        leaves(RANGE, x -> x.list(0, 5, 0, 0, 3, 5001));
        leaves(RANGE, x -> x.answer(0, 3, 100_000, 0));
        leaves(RANGE, x -> x.use(0, -1));
        leaves(RANGE, x -> x.use(0, 1_000_001));
        leaves(RANGE, x -> x.reason(0, -1));
        leaves(RANGE, x -> x.damage(0, 4));
        leaves(RANGE, x -> x.proof(1, 10_000));
        leaves(RANGE, x -> x.need(0, 0, 10));
        leaves(RANGE, x -> x.put(0, 0, 10));
        leaves(RANGE, x -> x.fuel(0, 1_000_001));
        leaves(RANGE, x -> x.cost(0, 10_000_001));
        leaves(RANGE, x -> x.skipped(-1));
        leaves(RANGE, x -> x.tick(5001));
        leaves(RANGE, x -> x.tick(0));
        leaves(RefusalSentences::atTheLastHour, RANGE, x -> x.tick(1));
        leaves(RefusalSentences::atTheLastHour, RANGE, x -> x.tick(5000));
    }

    private static void notInThisState() {
        leaves(STATE, x -> x.unlist(0, 5));
        leaves(STATE, x -> x.answer(0, 5, 0, 0));
        leaves(STATE, x -> x.use(2, 200));
        leaves(STATE, x -> x.off(0, false, 0, 1));
        leaves(STATE, x -> x.off(0, true, 1, 1));
        leaves(STATE, x -> x.off(2, true, 0, 1));
        leaves(STATE, x -> x.off(2, false, 1, 1));
        leaves(STATE, x -> x.proof(0, 9));
        leaves(STATE, x -> x.swap(0, 1, 5));
        leaves(STATE, x -> x.using(1, 0));
        leaves(STATE, x -> x.key(0, 6));
        leaves(STATE, x -> x.key(1, -1));
    }

    private static void noRoom() {
        leaves(RefusalSentences::fullOfVehicles, ROOM, x -> x.vehicle(0, true));
        leaves(RefusalSentences::fullOfDamages, ROOM, x -> x.damage(0, 3));
        leaves(RefusalSentences::fullOfAThing, ROOM, x -> x.put(0, 4, 3));
        leaves(RefusalSentences::fullOfCosts, ROOM, x -> x.cost(0, 1));
        leaves(RefusalSentences::fullOfFuel, ROOM, x -> x.fuel(0, 1));
    }

    private static VehicleChecks atTheLastHour() {
        VehicleChecks x = standing();
        for (int i = 0; i < 19; i++) {
            x.tick(5000);
        }
        x.tick(4990);
        return x;
    }

    private static VehicleChecks fullOfVehicles() {
        VehicleChecks x = standing();
        for (int v = 3; v < 20; v++) {
            x.vehicle(0, false);
        }
        return x;
    }

    private static VehicleChecks fullOfDamages() {
        VehicleChecks x = standing();
        for (int d = 2; d < 100; d++) {
            x.damage(d < 50 ? 1 : 2, 1);
        }
        return x;
    }

    private static VehicleChecks fullOfAThing() {
        VehicleChecks x = standing();
        for (int i = 0; i < 11; i++) {
            x.put(0, 4, 9);
        }
        return x;
    }

    private static VehicleChecks fullOfCosts() {
        VehicleChecks x = standing();
        for (int i = 0; i < 99; i++) {
            x.cost(0, 10_000_000);
        }
        x.cost(0, 9_999_930);
        return x;
    }

    /** A thousand fillings, so beyond the 512 calls that are promised. */
    private static VehicleChecks fullOfFuel() {
        VehicleChecks x = standing();
        for (int i = 0; i < 999; i++) {
            x.fuel(0, 1_000_000);
        }
        x.fuel(0, 999_500);
        return x;
    }

    private static void theFirstThatIsSo() {
        unknownBeforeRange();
        unknownBeforeState();
        rangeBeforeState();
        allBeforeRoom();
    }

    private static void unknownBeforeRange() {
        leaves(UNKNOWN, x -> x.list(5, 0, 0, 0, 0, 0));
        leaves(UNKNOWN, x -> x.list(0, 10, 1, 0, 1, 0));
        leaves(UNKNOWN, x -> x.list(0, -1, 0, 0, 1, -1));
        leaves(UNKNOWN, x -> x.answer(3, 3, 100_000, 0));
        leaves(UNKNOWN, x -> x.answer(0, 10, 100_000, 0));
        leaves(UNKNOWN, x -> x.answer(0, 3, 100_000, 40));
        leaves(UNKNOWN, x -> x.use(3, -1));
        leaves(UNKNOWN, x -> x.reason(3, -1));
        leaves(UNKNOWN, x -> x.damage(3, 4));
        leaves(UNKNOWN, x -> x.proof(2, 0));
        leaves(UNKNOWN, x -> x.need(5, 0, 10));
        leaves(UNKNOWN, x -> x.need(0, 10, 10));
        leaves(UNKNOWN, x -> x.put(3, 0, 10));
        leaves(UNKNOWN, x -> x.put(0, 10, 10));
        leaves(UNKNOWN, x -> x.fuel(3, 0));
        leaves(UNKNOWN, x -> x.cost(3, -1));
    }

    private static void unknownBeforeState() {
        leaves(UNKNOWN, x -> x.unlist(5, 0));
        leaves(UNKNOWN, x -> x.unlist(0, 10));
        leaves(UNKNOWN, x -> x.answer(0, 5, 0, 40));
        leaves(UNKNOWN, x -> x.off(0, false, 40, 1));
        leaves(UNKNOWN, x -> x.off(0, false, 1, 40));
        leaves(UNKNOWN, x -> x.off(2, true, 1, -1));
        leaves(UNKNOWN, x -> x.off(0, true, 40, 40));
        leaves(UNKNOWN, x -> x.off(3, true, 1, 1));
        leaves(UNKNOWN, x -> x.swap(1, 1, 5));
        leaves(UNKNOWN, x -> x.swap(0, 1, 10));
        leaves(UNKNOWN, x -> x.using(1, 2));
        leaves(UNKNOWN, x -> x.using(1, -1));
        leaves(UNKNOWN, x -> x.key(3, -1));
    }

    private static void rangeBeforeState() {
        leaves(RANGE, x -> x.answer(0, 5, 100_000, 0));
        leaves(RANGE, x -> x.answer(0, 5, -100_000, 0));
        leaves(RANGE, x -> x.use(2, -1));
        leaves(RANGE, x -> x.use(2, 1_000_001));
        leaves(RANGE, x -> x.proof(0, 0));
        leaves(RANGE, x -> x.proof(0, 10_000));
    }

    private static void allBeforeRoom() {
        leaves(RefusalSentences::fullOfVehicles, UNKNOWN, x -> x.vehicle(5, false));
        leaves(RefusalSentences::fullOfVehicles, UNKNOWN, x -> x.vehicle(-1, false));
        leaves(RefusalSentences::fullOfDamages, UNKNOWN, x -> x.damage(3, 1));
        leaves(RefusalSentences::fullOfDamages, UNKNOWN, x -> x.damage(3, 4));
        leaves(RefusalSentences::fullOfDamages, RANGE, x -> x.damage(0, 0));
        leaves(RefusalSentences::fullOfDamages, RANGE, x -> x.damage(0, 4));
        leaves(RefusalSentences::fullOfAThing, UNKNOWN, x -> x.put(3, 4, 9));
        leaves(RefusalSentences::fullOfAThing, UNKNOWN, x -> x.put(0, 10, 9));
        leaves(RefusalSentences::fullOfAThing, RANGE, x -> x.put(0, 4, 0));
        leaves(RefusalSentences::fullOfAThing, RANGE, x -> x.put(0, 4, 10));
        leaves(RefusalSentences::fullOfCosts, UNKNOWN, x -> x.cost(3, 1));
        leaves(RefusalSentences::fullOfCosts, RANGE, x -> x.cost(0, -1));
        leaves(RefusalSentences::fullOfCosts, RANGE, x -> x.cost(0, 10_000_001));
        leaves(RefusalSentences::fullOfFuel, UNKNOWN, x -> x.fuel(3, 1));
        leaves(RefusalSentences::fullOfFuel, RANGE, x -> x.fuel(0, 0));
        leaves(RefusalSentences::fullOfFuel, RANGE, x -> x.fuel(0, 1_000_001));
    }

    private static void fiveHundredAndTwelveCalls() {
        VehicleChecks x = withVehicles(0, false);
        for (int call = 2; call <= 510; call++) {
            int kilometres = call;
            is(true, () -> x.use(0, kilometres));
        }
        is(509, () -> x.vehicleAt(0, 3));
        is(510, () -> x.vehicleAt(0, 0));
    }
}
