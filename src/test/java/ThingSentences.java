/** Promises 13 to 20: what is needed, put and swapped, the spare one, fuel and its use, keys, costs. */
final class ThingSentences extends Sentences {
    static void all() {
        promise(13, "A kind needs so many of a thing.", ThingSentences::needOfAKind);
        promise(13, "IllegalArgumentException: no such kind or thing;", ThingSentences::needOfNoSuch);
        promise(13, "IndexOutOfBoundsException: the number.", ThingSentences::needRefusesNumbers);
        promise(14, "A vehicle gets n (1 .. 9) of a thing: how many it has.", ThingSentences::put);
        promise(14, "IllegalArgumentException: no such vehicle or thing;", ThingSentences::putOfNoSuch);
        promise(14, "IndexOutOfBoundsException: n;", ThingSentences::putRefusesNumbers);
        promise(14, "UnsupportedOperationException: above 99.", ThingSentences::putAboveNinetyNine);
        promise(15, "All of a thing that two vehicles have changes places: how many the first one has then.",
            ThingSentences::swap);
        promise(15, "IllegalArgumentException: no such vehicles", ThingSentences::swapOfNoSuchVehicles);
        promise(15, "(or they are one)", ThingSentences::swapOfOne);
        promise(15, "or thing;", ThingSentences::swapOfNoSuchThing);
        promise(15, "IllegalStateException: both have as many.", ThingSentences::swapOfAsMany);
        promise(16, "The spare one for a vehicle: when it has all things that their kind needs its number,",
            ThingSentences::spareHasAll);
        promise(16, "otherwise -2 less the lowest thing that it lacks;", ThingSentences::spareLacks);
        promise(16, "-1 without one.", ThingSentences::withoutASpare);
        promise(16, "IllegalArgumentException: no such vehicle.", ThingSentences::spareOfNoSuchVehicle);
        promise(17, "Millilitres are filled in: all so far.", ThingSentences::fuel);
        promise(17, "IllegalArgumentException: no such vehicle;", ThingSentences::fuelOfNoSuchVehicle);
        promise(17, "IndexOutOfBoundsException: they are not so;", ThingSentences::fuelRefusesNumbers);
        promise(17, "UnsupportedOperationException: above 1,000,000,000.", ThingSentences::fuelHasNoRoom);
        promise(18, "The use in lowest terms: what 0 the upper, 1 the lower number.", ThingSentences::using);
        promise(18, "IllegalArgumentException: no such vehicle or what;", ThingSentences::usingOfNoSuch);
        promise(18, "IllegalStateException: it has no kilometres.", ThingSentences::usingWithoutKilometres);
        promise(19, "A key goes to a person (-1: back):", ThingSentences::keyGoes);
        promise(19, "the person who had it (-1).", ThingSentences::whoHadTheKey);
        promise(19, "IllegalArgumentException: no such vehicle or person;", ThingSentences::keyOfNoSuch);
        promise(19, "IllegalStateException: that one has it.", ThingSentences::thatOneHasTheKey);
        promise(20, "Costs of a workshop, in cents (0 .. 10,000,000): all so far.", ThingSentences::cost);
        promise(20, "IllegalArgumentException: no such vehicle;", ThingSentences::costOfNoSuchVehicle);
        promise(20, "IndexOutOfBoundsException: they are not so;", ThingSentences::costRefusesNumbers);
        promise(20, "UnsupportedOperationException: above 1,000,000,000.", ThingSentences::costHasNoRoom);
    }

    private static void needOfAKind() {
        VehicleChecks x = withVehicles(0, false, true);
        x.vehicle(4, false);
        x.vehicle(4, true);
        does(() -> x.need(0, 0, 1));
        does(() -> x.need(4, 9, 9));
        is(-2, () -> x.spare(0));
        is(-11, () -> x.spare(2));
        does(() -> x.need(0, 0, 0));
        is(1, () -> x.spare(0));
        is(-11, () -> x.spare(2));
    }

    private static void needOfNoSuch() {
        VehicleChecks x = withVehicles(0, false, true);
        refusesEach(UNKNOWN, kind -> x.need(kind, 0, 1), -1, 5);
        refusesEach(UNKNOWN, thing -> x.need(0, thing, 1), -1, 10);
        is(1, () -> x.spare(0));
        does(() -> x.need(4, 9, 1));
    }

    private static void needRefusesNumbers() {
        VehicleChecks x = withVehicles(0, false, true);
        refusesEach(RANGE, n -> x.need(0, 0, n), -1, 10);
        is(1, () -> x.spare(0));
        does(() -> x.need(0, 0, 9));
        is(-2, () -> x.spare(0));
        refusesEach(RANGE, n -> x.need(0, 0, n), -1, 10);
        is(-2, () -> x.spare(0));
        does(() -> x.need(0, 0, 0));
        is(1, () -> x.spare(0));
    }

    private static void put() {
        VehicleChecks x = withVehicles(0, false, false);
        is(1, () -> x.put(0, 0, 1));
        is(10, () -> x.put(0, 0, 9));
        is(9, () -> x.put(0, 9, 9));
        is(1, () -> x.put(1, 0, 1));
        is(11, () -> x.put(0, 0, 1));
    }

    private static void putOfNoSuch() {
        VehicleChecks x = withVehicles(0, false, false);
        refusesEach(UNKNOWN, vehicle -> x.put(vehicle, 0, 1), -1, 2, 19, 20);
        refusesEach(UNKNOWN, thing -> x.put(0, thing, 1), -1, 10);
        is(1, () -> x.put(0, 0, 1));
        is(1, () -> x.put(1, 9, 1));
    }

    private static void putRefusesNumbers() {
        VehicleChecks x = withVehicles(0, false);
        refusesEach(RANGE, n -> x.put(0, 0, n), -1, 0, 10);
        is(1, () -> x.put(0, 0, 1));
        refusesEach(RANGE, n -> x.put(0, 0, n), -1, 0, 10);
        is(10, () -> x.put(0, 0, 9));
    }

    private static void putAboveNinetyNine() {
        VehicleChecks x = withVehicles(0, false, false);
        for (int i = 0; i < 10; i++) {
            x.put(0, 4, 9);
        }
        is(91, () -> x.put(0, 4, 1));
        refuses(ROOM, () -> x.put(0, 4, 9));
        is(99, () -> x.put(0, 4, 8));
        for (int n = 1; n <= 9; n++) {
            int one = n;
            refuses(ROOM, () -> x.put(0, 4, one));
        }
        is(9, () -> x.put(0, 5, 9));
        is(9, () -> x.put(1, 4, 9));
        is(9, () -> x.swap(0, 1, 4));
        refuses(ROOM, () -> x.put(1, 4, 1));
        is(10, () -> x.put(0, 4, 1));
    }

    private static void swap() {
        VehicleChecks x = withVehicles(0, false);
        x.vehicle(4, true);
        x.put(0, 0, 3);
        x.put(0, 9, 4);
        x.put(1, 9, 5);
        is(0, () -> x.swap(0, 1, 0));
        is(5, () -> x.swap(0, 1, 9));
        is(1, () -> x.put(0, 0, 1));
        is(4, () -> x.put(1, 0, 1));
        is(6, () -> x.put(0, 9, 1));
        is(5, () -> x.put(1, 9, 1));
        is(6, () -> x.swap(1, 0, 9));
    }

    private static void swapOfNoSuchVehicles() {
        VehicleChecks x = withVehicles(0, false, false);
        x.put(0, 0, 1);
        refusesEach(UNKNOWN, vehicle -> x.swap(vehicle, 0, 0), -1, 2, 19, 20);
        refusesEach(UNKNOWN, vehicle -> x.swap(0, vehicle, 0), -1, 2, 19, 20);
        refusesEach(UNKNOWN, vehicle -> x.swap(vehicle, vehicle, 0), -1, 2, 19, 20);
        is(1, () -> x.swap(1, 0, 0));
    }

    private static void swapOfOne() {
        VehicleChecks x = withVehicles(0, false, false);
        refuses(UNKNOWN, () -> x.swap(0, 0, 0));
        x.put(1, 0, 1);
        refuses(UNKNOWN, () -> x.swap(1, 1, 0));
        is(1, () -> x.swap(0, 1, 0));
    }

    private static void swapOfNoSuchThing() {
        VehicleChecks x = withVehicles(0, false, false);
        x.put(0, 0, 1);
        x.put(0, 9, 1);
        refusesEach(UNKNOWN, thing -> x.swap(0, 1, thing), -1, 10);
        is(0, () -> x.swap(0, 1, 0));
        is(0, () -> x.swap(0, 1, 9));
    }

    private static void swapOfAsMany() {
        VehicleChecks x = withVehicles(0, false, false);
        refuses(STATE, () -> x.swap(0, 1, 0));
        x.put(0, 0, 9);
        x.put(1, 0, 8);
        is(8, () -> x.swap(0, 1, 0));
        x.put(0, 0, 1);
        refuses(STATE, () -> x.swap(0, 1, 0));
        refuses(STATE, () -> x.swap(1, 0, 0));
        is(10, () -> x.put(0, 0, 1));
        is(10, () -> x.put(1, 0, 1));
    }

    private static void spareHasAll() {
        VehicleChecks x = withVehicles(0, false, true);
        x.need(0, 0, 1);
        x.need(0, 9, 9);
        x.put(1, 0, 1);
        x.put(1, 9, 8);
        is(-11, () -> x.spare(0));
        x.put(1, 9, 1);
        is(1, () -> x.spare(0));
        x.put(1, 9, 1);
        is(1, () -> x.spare(0));
    }

    private static void spareLacks() {
        VehicleChecks x = withVehicles(0, false, true, true);
        for (int thing = 9; thing >= 0; thing--) {
            int one = thing;
            x.need(0, one, 2);
            is(-2 - one, () -> x.spare(0));
            x.put(0, one, 9);
            x.put(2, one, 2);
        }
        for (int thing = 0; thing < 9; thing++) {
            int one = thing;
            x.put(1, one, 1);
            is(-2 - one, () -> x.spare(0));
            x.put(1, one, 1);
            is(-3 - one, () -> x.spare(0));
        }
        x.put(1, 9, 2);
        is(1, () -> x.spare(0));
    }

    private static void withoutASpare() {
        VehicleChecks x = withVehicles(0, true);
        is(-1, () -> x.spare(0));
        x.vehicle(0, false);
        x.vehicle(1, true);
        is(-1, () -> x.spare(0));
        is(0, () -> x.spare(1));
        x.need(0, 0, 1);
        is(-2, () -> x.spare(1));
        x.off(0, true, 0, 1);
        is(-1, () -> x.spare(1));
    }

    private static void spareOfNoSuchVehicle() {
        VehicleChecks x = withVehicles(0, false, true);
        refusesEach(UNKNOWN, x::spare, -1, 2, 19, 20);
        is(-1, () -> x.spare(1));
    }

    private static void fuel() {
        VehicleChecks x = withVehicles(0, false, false);
        is(1, () -> x.fuel(0, 1));
        is(1_000_001, () -> x.fuel(0, 1_000_000));
        is(2_000_001, () -> x.fuel(0, 1_000_000));
        is(7, () -> x.fuel(1, 7));
        x.off(0, true, 0, 1);
        is(2_000_002, () -> x.fuel(0, 1));
    }

    private static void fuelOfNoSuchVehicle() {
        VehicleChecks x = withVehicles(0, false, false);
        refusesEach(UNKNOWN, vehicle -> x.fuel(vehicle, 1), -1, 2, 19, 20);
        is(1, () -> x.fuel(0, 1));
        is(1, () -> x.fuel(1, 1));
    }

    private static void fuelRefusesNumbers() {
        VehicleChecks x = withVehicles(0, false);
        refusesEach(RANGE, millilitres -> x.fuel(0, millilitres), -1, 0, 1_000_001);
        is(1, () -> x.fuel(0, 1));
        refusesEach(RANGE, millilitres -> x.fuel(0, millilitres), -1, 0, 1_000_001);
        is(2, () -> x.fuel(0, 1));
    }

    /** The edge lies behind a thousand fillings: more than the 512 calls that are promised, but it holds there too. */
    private static void fuelHasNoRoom() {
        VehicleChecks x = withVehicles(0, false, false);
        for (int i = 0; i < 999; i++) {
            x.fuel(0, 1_000_000);
        }
        is(999_000_001, () -> x.fuel(0, 1));
        refuses(ROOM, () -> x.fuel(0, 1_000_000));
        is(1_000_000_000, () -> x.fuel(0, 999_999));
        refuses(ROOM, () -> x.fuel(0, 1));
        refuses(ROOM, () -> x.fuel(0, 1_000_000));
        is(1, () -> x.fuel(1, 1));
        x.use(0, 1);
        is(100_000_000_000L, () -> x.using(0, 0));
    }

    private static void using() {
        VehicleChecks x = withVehicles(0, false);
        x.use(0, 1_000_000);
        fraction(x, 0, 1);
        x.fuel(0, 1);
        fraction(x, 1, 10_000);
        x.fuel(0, 9_999);
        fraction(x, 1, 1);
        x.fuel(0, 2_000);
        fraction(x, 6, 5);
        x.fuel(0, 1);
        fraction(x, 12_001, 10_000);
        for (int i = 0; i < 400; i++) {
            x.fuel(0, 1_000_000);
        }
        fraction(x, 400_012_001L, 10_000);
        VehicleChecks y = withVehicles(0, false);
        for (int i = 0; i < 22; i++) {
            y.fuel(0, 1_000_000);
        }
        y.use(0, 1);
        fraction(y, 2_200_000_000L, 1);
        y.use(0, 999_983);
        fraction(y, 2_200_000_000L, 999_983);
    }

    private static void fraction(VehicleChecks x, long upper, long lower) {
        is(upper, () -> x.using(0, 0));
        is(lower, () -> x.using(0, 1));
    }

    private static void usingOfNoSuch() {
        VehicleChecks x = withVehicles(0, false, false);
        x.use(0, 1);
        x.use(1, 1);
        refusesEach(UNKNOWN, vehicle -> x.using(vehicle, 0), -1, 2, 19, 20);
        refusesEach(UNKNOWN, what -> x.using(0, what), -1, 2);
        is(0, () -> x.using(1, 0));
        is(1, () -> x.using(1, 1));
    }

    private static void usingWithoutKilometres() {
        VehicleChecks x = withVehicles(0, false);
        refuses(STATE, () -> x.using(0, 0));
        refuses(STATE, () -> x.using(0, 1));
        x.fuel(0, 1);
        refuses(STATE, () -> x.using(0, 0));
        x.use(0, 0);
        refuses(STATE, () -> x.using(0, 0));
        refuses(STATE, () -> x.using(0, 1));
        x.use(0, 1);
        is(100, () -> x.using(0, 0));
        is(1, () -> x.using(0, 1));
    }

    private static void keyGoes() {
        VehicleChecks x = withVehicles(0, false, false);
        does(() -> x.key(0, 0));
        is(0, () -> x.vehicleAt(0, 5));
        does(() -> x.key(0, 39));
        is(39, () -> x.vehicleAt(0, 5));
        does(() -> x.key(1, 39));
        is(39, () -> x.vehicleAt(1, 5));
        does(() -> x.key(0, -1));
        is(-1, () -> x.vehicleAt(0, 5));
        is(39, () -> x.vehicleAt(1, 5));
    }

    private static void whoHadTheKey() {
        VehicleChecks x = withVehicles(0, false);
        is(-1, () -> x.key(0, 39));
        is(39, () -> x.key(0, 0));
        is(0, () -> x.key(0, -1));
        is(-1, () -> x.key(0, 0));
    }

    private static void keyOfNoSuch() {
        VehicleChecks x = withVehicles(0, false, false);
        refusesEach(UNKNOWN, vehicle -> x.key(vehicle, 0), -1, 2, 19, 20);
        refusesEach(UNKNOWN, person -> x.key(0, person), -2, 40);
        is(-1, () -> x.vehicleAt(0, 5));
        is(-1, () -> x.key(1, 0));
    }

    private static void thatOneHasTheKey() {
        VehicleChecks x = withVehicles(0, false);
        refuses(STATE, () -> x.key(0, -1));
        x.key(0, 0);
        refuses(STATE, () -> x.key(0, 0));
        is(0, () -> x.vehicleAt(0, 5));
        x.key(0, 39);
        refuses(STATE, () -> x.key(0, 39));
        x.key(0, -1);
        refuses(STATE, () -> x.key(0, -1));
    }

    private static void cost() {
        VehicleChecks x = withVehicles(0, false, false);
        is(0, () -> x.cost(0, 0));
        is(10_000_000, () -> x.cost(0, 10_000_000));
        is(10_000_001, () -> x.cost(0, 1));
        is(10_000_001, () -> x.cost(0, 0));
        is(5, () -> x.cost(1, 5));
    }

    private static void costOfNoSuchVehicle() {
        VehicleChecks x = withVehicles(0, false, false);
        refusesEach(UNKNOWN, vehicle -> x.cost(vehicle, 1), -1, 2, 19, 20);
        is(0, () -> x.cost(0, 0));
        is(0, () -> x.cost(1, 0));
    }

    private static void costRefusesNumbers() {
        VehicleChecks x = withVehicles(0, false);
        refusesEach(RANGE, cents -> x.cost(0, cents), -1, 10_000_001);
        is(1, () -> x.cost(0, 1));
        refusesEach(RANGE, cents -> x.cost(0, cents), -1, 10_000_001);
        is(1, () -> x.cost(0, 0));
    }

    private static void costHasNoRoom() {
        VehicleChecks x = withVehicles(0, false, false);
        for (int i = 0; i < 99; i++) {
            x.cost(0, 10_000_000);
        }
        is(990_000_001, () -> x.cost(0, 1));
        refuses(ROOM, () -> x.cost(0, 10_000_000));
        is(1_000_000_000, () -> x.cost(0, 9_999_999));
        refuses(ROOM, () -> x.cost(0, 1));
        refuses(ROOM, () -> x.cost(0, 10_000_000));
        is(1_000_000_000, () -> x.cost(0, 0));
        is(1, () -> x.cost(1, 1));
    }
}
