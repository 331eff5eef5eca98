/** Promises 7 to 12 and 21 to 23: uses, what runs and why not, off and on, damages, skipped items, time. */
final class RunSentences extends Sentences {
    static void all() {
        promise(7, "A use, with the kilometres behind it: whether they are not lower than before",
            RunSentences::useNotLower);
        promise(7, "(otherwise told, and the kilometres stay;", RunSentences::useLowerIsTold);
        promise(7, "it is a use all the same).", RunSentences::useLowerIsAUse);
        promise(7, "IllegalArgumentException: no such vehicle;", RunSentences::useOfNoSuchVehicle);
        promise(7, "IndexOutOfBoundsException: they are not 0 .. 1,000,000;", RunSentences::useRefusesKilometres);
        promise(7, "IllegalStateException: the vehicle does not run.", RunSentences::useOfWhatDoesNotRun);
        promise(8, "Whether a vehicle runs.", RunSentences::runs);
        promise(8, "IllegalArgumentException: there is none such.", RunSentences::runsOfNoSuchVehicle);
        promise(9, "The i-th reason (0 first):", RunSentences::reasonsFromZero);
        promise(9, "10,000 times its grade, and the item (fails),", RunSentences::reasonFails);
        promise(9, "100 and the item (skipped),", RunSentences::reasonSkipped);
        promise(9, "or 1,000 and the damage;", RunSentences::reasonDamage);
        promise(9, "-1 when there are not so many.", RunSentences::reasonNotSoMany);
        promise(9, "IllegalArgumentException: no such vehicle;", RunSentences::reasonOfNoSuchVehicle);
        promise(9, "IndexOutOfBoundsException: i is below 0.", RunSentences::reasonBelowZero);
        promise(10, "Takes a vehicle off the run, or puts it on again.", RunSentences::offAndOn);
        promise(10, "IllegalArgumentException: no such vehicle or persons;", RunSentences::offOfNoSuch);
        promise(10, "IllegalStateException: it is so,", RunSentences::offItIsSo);
        promise(10, "or the persons are one.", RunSentences::offPersonsAreOne);
        promise(11, "A damage: its number.", RunSentences::damageNumbers);
        promise(11, "IllegalArgumentException: no such vehicle;", RunSentences::damageOfNoSuchVehicle);
        promise(11, "IndexOutOfBoundsException: the grade;", RunSentences::damageRefusesGrades);
        promise(11, "UnsupportedOperationException: there are 100.", RunSentences::thereAreAHundred);
        promise(12, "A damage's proof.", RunSentences::proofOfADamage);
        promise(12, "IllegalArgumentException: there is none such;", RunSentences::proofOfNoSuchDamage);
        promise(12, "IndexOutOfBoundsException: the proof;", RunSentences::proofRefusesNumbers);
        promise(12, "IllegalStateException: it has one.", RunSentences::proofOfWhatHasOne);
        promise(21, "The i-th skipped item (0 first, by vehicles, then items)", RunSentences::skippedInTheirOrder);
        promise(21, "of all vehicles that are on the run:", RunSentences::skippedOnTheRun);
        promise(21, "10 times the vehicle and the item;", RunSentences::skippedNumbers);
        promise(21, "-1 when there are not so many.", RunSentences::skippedNotSoMany);
        promise(21, "IndexOutOfBoundsException: i is below 0.", RunSentences::skippedBelowZero);
        promise(22, "Time goes on (1 .. 5,000 hours):", RunSentences::timeGoesOn);
        promise(22, "how many vehicles run then.", RunSentences::howManyRunThen);
        promise(22, "IndexOutOfBoundsException: the hours,", RunSentences::tickRefusesHours);
        promise(22, "or beyond 99,999.", RunSentences::tickNotBeyond);
        promise(23, "Of a vehicle 0 its kilometres,", RunSentences::atKilometres);
        promise(23, "1 whether it is on the run (1, 0),", RunSentences::atOnTheRun);
        promise(23, "2 lower kilometres told,", RunSentences::atLowerTold);
        promise(23, "3 uses,", RunSentences::atUses);
        promise(23, "4 open damages,", RunSentences::atOpenDamages);
        promise(23, "5 who has its key (-1).", RunSentences::atKey);
        promise(23, "IllegalArgumentException: no such vehicle or what.", RunSentences::atRefuses);
    }

    private static void useNotLower() {
        VehicleChecks x = withVehicles(0, false, false);
        is(true, () -> x.use(0, 0));
        is(true, () -> x.use(0, 10));
        is(true, () -> x.use(0, 10));
        is(true, () -> x.use(0, 11));
        is(11, () -> x.vehicleAt(0, 0));
        is(true, () -> x.use(1, 3));
        is(false, () -> x.use(0, 10));
        is(true, () -> x.use(0, 11));
        is(0, () -> x.vehicleAt(1, 2));
    }

    private static void useLowerIsTold() {
        VehicleChecks x = withVehicles(0, false);
        x.use(0, 1_000_000);
        is(false, () -> x.use(0, 999_999));
        is(1_000_000, () -> x.vehicleAt(0, 0));
        is(1, () -> x.vehicleAt(0, 2));
        is(false, () -> x.use(0, 0));
        is(1_000_000, () -> x.vehicleAt(0, 0));
        is(2, () -> x.vehicleAt(0, 2));
    }

    private static void useLowerIsAUse() {
        VehicleChecks x = withVehicles(0, false);
        x.list(0, 0, 0, 0, 1, 0);
        x.use(0, 5);
        x.answer(0, 0, 0, 0);
        is(false, () -> x.use(0, 4));
        is(2, () -> x.vehicleAt(0, 3));
        is(1, () -> x.item(0, 0, 5));
    }

    private static void useOfNoSuchVehicle() {
        VehicleChecks x = withVehicles(0, false, false);
        refusesEach(UNKNOWN, vehicle -> x.use(vehicle, 1), -1, 2, 19, 20);
        is(true, () -> x.use(1, 1));
        is(0, () -> x.vehicleAt(0, 3));
    }

    private static void useRefusesKilometres() {
        VehicleChecks x = withVehicles(0, false);
        refusesEach(RANGE, kilometres -> x.use(0, kilometres), -1, 1_000_001);
        is(0, () -> x.vehicleAt(0, 3));
        is(0, () -> x.vehicleAt(0, 2));
        is(true, () -> x.use(0, 0));
        is(true, () -> x.use(0, 1_000_000));
        is(1_000_000, () -> x.vehicleAt(0, 0));
        is(2, () -> x.vehicleAt(0, 3));
    }

    private static void useOfWhatDoesNotRun() {
        VehicleChecks x = withVehicles(0, false);
        x.use(0, 5);
        x.off(0, true, 0, 1);
        refuses(STATE, () -> x.use(0, 6));
        refuses(STATE, () -> x.use(0, 4));
        x.off(0, false, 0, 1);
        x.damage(0, 3);
        refuses(STATE, () -> x.use(0, 6));
        x.proof(0, 1);
        x.list(0, 0, 0, 0, 3, 1);
        x.tick(1);
        refuses(STATE, () -> x.use(0, 6));
        is(5, () -> x.vehicleAt(0, 0));
        is(0, () -> x.vehicleAt(0, 2));
        is(1, () -> x.vehicleAt(0, 3));
        x.answer(0, 0, 0, 0);
        is(true, () -> x.use(0, 6));
    }

    private static void runs() {
        VehicleChecks x = withVehicles(0, false, false);
        is(true, () -> x.runs(0));
        x.damage(0, 2);
        is(true, () -> x.runs(0));
        x.damage(0, 2);
        is(false, () -> x.runs(0));
        is(true, () -> x.runs(1));
    }

    private static void runsOfNoSuchVehicle() {
        VehicleChecks x = withVehicles(0, false, false);
        refusesEach(UNKNOWN, x::runs, -1, 2, 19, 20);
        is(true, () -> x.runs(1));
    }

    private static void reasonsFromZero() {
        VehicleChecks x = withVehicles(0, false);
        x.damage(0, 1);
        x.damage(0, 2);
        x.damage(0, 3);
        is(11_000, () -> x.reason(0, 0));
        is(21_001, () -> x.reason(0, 1));
        is(31_002, () -> x.reason(0, 2));
    }

    private static void reasonFails() {
        VehicleChecks x = withVehicles(0, false);
        x.list(0, 0, 0, 0, 1, 5000);
        x.list(0, 9, 0, 0, 3, 5000);
        x.answer(0, 0, 1, 0);
        x.answer(0, 9, -1, 0);
        is(10_000, () -> x.reason(0, 0));
        is(30_009, () -> x.reason(0, 1));
    }

    private static void reasonSkipped() {
        VehicleChecks x = withVehicles(0, false);
        x.list(0, 0, 0, 0, 1, 1);
        x.list(0, 9, 0, 0, 3, 1);
        x.tick(1);
        is(10_100, () -> x.reason(0, 0));
        is(30_109, () -> x.reason(0, 1));
    }

    private static void reasonDamage() {
        VehicleChecks x = withVehicles(0, false, false);
        x.damage(0, 2);
        for (int d = 1; d < 99; d++) {
            x.damage(1, 1);
        }
        x.damage(0, 3);
        is(21_000, () -> x.reason(0, 0));
        is(31_099, () -> x.reason(0, 1));
        is(-1, () -> x.reason(0, 2));
    }

    private static void reasonNotSoMany() {
        VehicleChecks x = withVehicles(0, false);
        is(-1, () -> x.reason(0, 0));
        x.list(0, 0, 0, 0, 1, 1);
        x.answer(0, 0, 1, 0);
        x.tick(1);
        x.damage(0, 1);
        is(11_000, () -> x.reason(0, 2));
        is(-1, () -> x.reason(0, 3));
        is(-1, () -> x.reason(0, 4));
        is(-1, () -> x.reason(0, Integer.MAX_VALUE));
    }

    private static void reasonOfNoSuchVehicle() {
        VehicleChecks x = withVehicles(0, false, false);
        refusesEach(UNKNOWN, vehicle -> x.reason(vehicle, 0), -1, 2, 19, 20);
        is(-1, () -> x.reason(1, 0));
    }

    private static void reasonBelowZero() {
        VehicleChecks x = withVehicles(0, false);
        refuses(RANGE, () -> x.reason(0, -1));
        refuses(RANGE, () -> x.reason(0, Integer.MIN_VALUE));
        x.damage(0, 1);
        refuses(RANGE, () -> x.reason(0, -1));
        is(11_000, () -> x.reason(0, 0));
    }

    private static void offAndOn() {
        VehicleChecks x = withVehicles(0, false, false);
        does(() -> x.off(0, true, 0, 1));
        is(0, () -> x.vehicleAt(0, 1));
        is(1, () -> x.vehicleAt(1, 1));
        does(() -> x.off(0, false, 2, 3));
        is(1, () -> x.vehicleAt(0, 1));
        does(() -> x.off(0, true, 1, 0));
        is(0, () -> x.vehicleAt(0, 1));
    }

    private static void offOfNoSuch() {
        VehicleChecks x = withVehicles(0, false, false);
        refusesEach(UNKNOWN, vehicle -> x.off(vehicle, true, 0, 1), -1, 2, 19, 20);
        refusesEach(UNKNOWN, person -> x.off(0, true, person, 1), -1, 40);
        refusesEach(UNKNOWN, person -> x.off(0, true, 1, person), -1, 40);
        is(1, () -> x.vehicleAt(0, 1));
        does(() -> x.off(1, true, 39, 0));
    }

    private static void offItIsSo() {
        VehicleChecks x = withVehicles(0, false);
        refuses(STATE, () -> x.off(0, false, 0, 1));
        is(1, () -> x.vehicleAt(0, 1));
        x.off(0, true, 0, 1);
        refuses(STATE, () -> x.off(0, true, 0, 1));
        refuses(STATE, () -> x.off(0, true, 2, 3));
        is(0, () -> x.vehicleAt(0, 1));
        x.off(0, false, 0, 1);
        refuses(STATE, () -> x.off(0, false, 0, 1));
    }

    private static void offPersonsAreOne() {
        VehicleChecks x = withVehicles(0, false);
        refuses(STATE, () -> x.off(0, true, 0, 0));
        refuses(STATE, () -> x.off(0, true, 39, 39));
        is(1, () -> x.vehicleAt(0, 1));
        x.off(0, true, 38, 39);
        refuses(STATE, () -> x.off(0, false, 39, 39));
        is(0, () -> x.vehicleAt(0, 1));
    }

    private static void damageNumbers() {
        VehicleChecks x = withVehicles(0, false, false);
        is(0, () -> x.damage(1, 1));
        is(1, () -> x.damage(0, 3));
        is(2, () -> x.damage(1, 2));
        x.proof(2, 1);
        is(3, () -> x.damage(1, 2));
        is(1, () -> x.vehicleAt(0, 4));
        is(2, () -> x.vehicleAt(1, 4));
    }

    private static void damageOfNoSuchVehicle() {
        VehicleChecks x = withVehicles(0, false, false);
        refusesEach(UNKNOWN, vehicle -> x.damage(vehicle, 1), -1, 2, 19, 20);
        is(0, () -> x.damage(1, 1));
    }

    private static void damageRefusesGrades() {
        VehicleChecks x = withVehicles(0, false);
        refusesEach(RANGE, grade -> x.damage(0, grade), -1, 0, 4);
        is(0, () -> x.vehicleAt(0, 4));
        is(0, () -> x.damage(0, 1));
        is(1, () -> x.damage(0, 3));
    }

    private static void thereAreAHundred() {
        VehicleChecks x = withVehicles(0, false, false);
        for (int d = 0; d < 99; d++) {
            x.damage(0, 1);
        }
        is(99, () -> x.damage(1, 1));
        refuses(ROOM, () -> x.damage(0, 1));
        refuses(ROOM, () -> x.damage(1, 3));
        x.proof(0, 1);
        refuses(ROOM, () -> x.damage(0, 1));
        is(98, () -> x.vehicleAt(0, 4));
        is(1, () -> x.vehicleAt(1, 4));
        is(true, () -> x.runs(1));
    }

    private static void proofOfADamage() {
        VehicleChecks x = withVehicles(0, false, false);
        x.damage(0, 3);
        x.damage(0, 1);
        x.damage(1, 3);
        does(() -> x.proof(0, 77));
        is(1, () -> x.vehicleAt(0, 4));
        is(1, () -> x.vehicleAt(1, 4));
        is(11_001, () -> x.reason(0, 0));
        is(true, () -> x.runs(0));
        is(false, () -> x.runs(1));
    }

    private static void proofOfNoSuchDamage() {
        VehicleChecks x = withVehicles(0, false);
        refusesEach(UNKNOWN, damage -> x.proof(damage, 1), -1, 0, 99, 100);
        x.damage(0, 1);
        refusesEach(UNKNOWN, damage -> x.proof(damage, 1), -1, 1, 99, 100);
        does(() -> x.proof(0, 1));
        for (int d = 1; d < 100; d++) {
            x.damage(0, 1);
        }
        refusesEach(UNKNOWN, damage -> x.proof(damage, 1), -1, 100);
        does(() -> x.proof(99, 1));
    }

    private static void proofRefusesNumbers() {
        VehicleChecks x = withVehicles(0, false);
        x.damage(0, 1);
        x.damage(0, 1);
        refusesEach(RANGE, proof -> x.proof(0, proof), -1, 0, 10_000);
        is(2, () -> x.vehicleAt(0, 4));
        does(() -> x.proof(0, 1));
        does(() -> x.proof(1, 9999));
        is(0, () -> x.vehicleAt(0, 4));
    }

    private static void proofOfWhatHasOne() {
        VehicleChecks x = withVehicles(0, false);
        x.damage(0, 1);
        x.damage(0, 1);
        x.proof(0, 5);
        refuses(STATE, () -> x.proof(0, 5));
        refuses(STATE, () -> x.proof(0, 6));
        is(1, () -> x.vehicleAt(0, 4));
        does(() -> x.proof(1, 5));
        refuses(STATE, () -> x.proof(1, 9999));
    }

    private static void skippedInTheirOrder() {
        VehicleChecks x = withVehicles(0, false, false);
        x.list(0, 9, 0, 0, 3, 1);
        x.list(0, 0, 0, 0, 3, 1);
        x.tick(1);
        is(0, () -> x.skipped(0));
        is(9, () -> x.skipped(1));
        is(10, () -> x.skipped(2));
        is(19, () -> x.skipped(3));
        x.answer(0, 9, 5, 0);
        is(10, () -> x.skipped(1));
    }

    private static void skippedOnTheRun() {
        VehicleChecks x = withVehicles(0, false, false, false);
        x.list(0, 4, 0, 0, 3, 1);
        x.tick(1);
        is(false, () -> x.runs(0));
        is(4, () -> x.skipped(0));
        x.off(0, true, 0, 1);
        is(14, () -> x.skipped(0));
        x.off(1, true, 0, 1);
        is(24, () -> x.skipped(0));
        x.off(2, true, 0, 1);
        is(-1, () -> x.skipped(0));
        x.off(0, false, 0, 1);
        is(4, () -> x.skipped(0));
        is(-1, () -> x.skipped(1));
    }

    private static void skippedNumbers() {
        VehicleChecks x = new VehicleChecks();
        for (int v = 0; v < 19; v++) {
            x.vehicle(1, false);
        }
        x.vehicle(0, false);
        x.list(0, 0, 0, 0, 1, 0);
        x.list(0, 9, 0, 0, 1, 0);
        x.use(19, 0);
        is(190, () -> x.skipped(0));
        is(199, () -> x.skipped(1));
        is(-1, () -> x.skipped(2));
    }

    private static void skippedNotSoMany() {
        VehicleChecks x = new VehicleChecks();
        is(-1, () -> x.skipped(0));
        is(-1, () -> x.skipped(Integer.MAX_VALUE));
        for (int v = 0; v < 20; v++) {
            x.vehicle(0, false);
        }
        for (int item = 0; item < 10; item++) {
            x.list(0, item, 0, 0, 1, 1);
        }
        is(-1, () -> x.skipped(0));
        x.tick(1);
        is(199, () -> x.skipped(199));
        is(-1, () -> x.skipped(200));
        is(-1, () -> x.skipped(Integer.MAX_VALUE));
    }

    private static void skippedBelowZero() {
        VehicleChecks x = withVehicles(0, false);
        refuses(RANGE, () -> x.skipped(-1));
        refuses(RANGE, () -> x.skipped(Integer.MIN_VALUE));
        x.list(0, 0, 0, 0, 1, 0);
        x.use(0, 0);
        refuses(RANGE, () -> x.skipped(-1));
        is(0, () -> x.skipped(0));
    }

    private static void timeGoesOn() {
        VehicleChecks x = withVehicles(0, false);
        x.list(0, 0, 0, 0, 1, 0);
        is(1, () -> x.tick(1));
        is(1, () -> x.tick(5000));
        x.answer(0, 0, 0, 0);
        is(5001, () -> x.item(0, 0, 2));
    }

    private static void howManyRunThen() {
        VehicleChecks x = new VehicleChecks();
        is(0, () -> x.tick(1));
        for (int v = 0; v < 20; v++) {
            x.vehicle(v % 2, v % 3 == 0);
        }
        is(20, () -> x.tick(1));
        x.off(19, true, 0, 1);
        x.damage(18, 3);
        is(18, () -> x.tick(1));
        x.list(0, 0, 0, 0, 3, 10);
        is(18, () -> x.tick(7));
        is(9, () -> x.tick(1));
        x.answer(0, 0, 0, 0);
        is(10, () -> x.tick(9));
        is(9, () -> x.tick(1));
    }

    private static void tickRefusesHours() {
        VehicleChecks x = withVehicles(0, false);
        x.list(0, 0, 0, 0, 1, 0);
        refusesEach(RANGE, x::tick, -1, 0, 5001);
        x.tick(1);
        refusesEach(RANGE, x::tick, -1, 0, 5001);
        x.answer(0, 0, 0, 0);
        is(1, () -> x.item(0, 0, 2));
    }

    private static void tickNotBeyond() {
        VehicleChecks x = withVehicles(0, false);
        for (int i = 0; i < 19; i++) {
            x.tick(5000);
        }
        refuses(RANGE, () -> x.tick(5000));
        is(1, () -> x.tick(4999));
        refusesEach(RANGE, x::tick, 1, 5000);
        x.list(0, 0, 0, 0, 1, 0);
        x.answer(0, 0, 0, 0);
        is(99_999, () -> x.item(0, 0, 2));
    }

    private static void atKilometres() {
        VehicleChecks x = withVehicles(0, false, false);
        is(0, () -> x.vehicleAt(1, 0));
        x.use(1, 1_000_000);
        is(1_000_000, () -> x.vehicleAt(1, 0));
        is(0, () -> x.vehicleAt(0, 0));
    }

    private static void atOnTheRun() {
        VehicleChecks x = withVehicles(0, false, false);
        x.damage(1, 3);
        is(false, () -> x.runs(1));
        is(1, () -> x.vehicleAt(1, 1));
        x.off(1, true, 0, 1);
        is(0, () -> x.vehicleAt(1, 1));
        is(1, () -> x.vehicleAt(0, 1));
    }

    private static void atLowerTold() {
        VehicleChecks x = withVehicles(0, false, false);
        is(0, () -> x.vehicleAt(1, 2));
        x.use(1, 2);
        x.use(1, 2);
        is(0, () -> x.vehicleAt(1, 2));
        x.use(1, 1);
        x.use(1, 1);
        is(2, () -> x.vehicleAt(1, 2));
        is(0, () -> x.vehicleAt(0, 2));
    }

    private static void atUses() {
        VehicleChecks x = withVehicles(0, false, false);
        is(0, () -> x.vehicleAt(1, 3));
        x.use(1, 0);
        x.use(1, 2);
        x.use(1, 1);
        is(3, () -> x.vehicleAt(1, 3));
        is(0, () -> x.vehicleAt(0, 3));
    }

    private static void atOpenDamages() {
        VehicleChecks x = withVehicles(0, false, false);
        is(0, () -> x.vehicleAt(0, 4));
        for (int d = 0; d < 100; d++) {
            x.damage(1, 1);
        }
        is(100, () -> x.vehicleAt(1, 4));
        is(0, () -> x.vehicleAt(0, 4));
        x.proof(0, 1);
        x.proof(99, 1);
        is(98, () -> x.vehicleAt(1, 4));
    }

    private static void atKey() {
        VehicleChecks x = withVehicles(0, false, false);
        is(-1, () -> x.vehicleAt(1, 5));
        x.key(1, 0);
        is(0, () -> x.vehicleAt(1, 5));
        x.key(1, 39);
        is(39, () -> x.vehicleAt(1, 5));
        is(-1, () -> x.vehicleAt(0, 5));
        x.key(1, -1);
        is(-1, () -> x.vehicleAt(1, 5));
    }

    private static void atRefuses() {
        VehicleChecks x = withVehicles(0, false, false);
        refusesEach(UNKNOWN, vehicle -> x.vehicleAt(vehicle, 0), -1, 2, 19, 20);
        refusesEach(UNKNOWN, what -> x.vehicleAt(0, what), -1, 6);
        is(0, () -> x.vehicleAt(1, 0));
        is(-1, () -> x.vehicleAt(1, 5));
    }
}
