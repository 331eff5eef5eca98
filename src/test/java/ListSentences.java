/** Promises 1 to 6: a new object, vehicles, lists, answers, items. */
final class ListSentences extends Sentences {
    static void all() {
        promise(1, "No vehicles;", ListSentences::noVehicles);
        promise(1, "lists without items,", ListSentences::listsWithoutItems);
        promise(1, "nothing is needed.", ListSentences::nothingIsNeeded);
        promise(2, "One more vehicle: its number.", ListSentences::oneMoreVehicle);
        promise(2, "IllegalArgumentException: no such kind;", ListSentences::vehicleOfNoSuchKind);
        promise(2, "UnsupportedOperationException: there are 20.", ListSentences::thereAreTwenty);
        promise(3, "An item of a kind's list", ListSentences::itemOfAList);
        promise(3, "(told anew: in place of what it was).", ListSentences::toldAnew);
        promise(3, "IllegalArgumentException: no such kind or item;", ListSentences::listOfNoSuchKindOrItem);
        promise(3, "IndexOutOfBoundsException: limits,", ListSentences::listRefusesLimits);
        promise(3, "grade,", ListSentences::listRefusesGrades);
        promise(3, "every.", ListSentences::listRefusesEvery);
        promise(4, "An item goes off a kind's list.", ListSentences::goesOffTheList);
        promise(4, "IllegalArgumentException: no such kind or item;", ListSentences::unlistOfNoSuchKindOrItem);
        promise(4, "IllegalStateException: it is not on it.", ListSentences::unlistWhatIsNotOnIt);
        promise(5, "An answer now: whether it is within the limits.", ListSentences::answerWithinTheLimits);
        promise(5, "IllegalArgumentException: no such vehicle,", ListSentences::answerOfNoSuchVehicle);
        promise(5, "item or person;", ListSentences::answerOfNoSuchItemOrPerson);
        promise(5, "IndexOutOfBoundsException: the value (-99,999 .. 99,999);", ListSentences::answerRefusesValues);
        promise(5, "IllegalStateException: the item is not on the list.", ListSentences::answerWhatIsNotOnTheList);
        promise(6, "Of an item of a vehicle 0 whether it is on the list (1, 0),", ListSentences::itemOnTheList);
        promise(6, "1 the latest value (0 without one),", ListSentences::itemValue);
        promise(6, "2 its hour (-1),", ListSentences::itemHour);
        promise(6, "3 its person (-1),", ListSentences::itemPerson);
        promise(6, "4 whether it fails,", ListSentences::itemFails);
        promise(6, "5 whether it is skipped (1, 0).", ListSentences::itemIsSkipped);
        promise(6, "IllegalArgumentException: no such vehicle, item or what.", ListSentences::itemRefuses);
    }

    private static void noVehicles() {
        VehicleChecks x = new VehicleChecks();
        for (int v = 0; v < 20; v++) {
            int one = v;
            refuses(UNKNOWN, () -> x.runs(one));
        }
        refuses(UNKNOWN, () -> x.answer(0, 0, 0, 0));
        refuses(UNKNOWN, () -> x.item(0, 0, 0));
        refuses(UNKNOWN, () -> x.use(0, 0));
        refuses(UNKNOWN, () -> x.reason(0, 0));
        refuses(UNKNOWN, () -> x.off(0, true, 0, 1));
        refuses(UNKNOWN, () -> x.damage(0, 1));
        refuses(UNKNOWN, () -> x.proof(0, 1));
        refuses(UNKNOWN, () -> x.put(0, 0, 1));
        refuses(UNKNOWN, () -> x.swap(0, 1, 0));
        refuses(UNKNOWN, () -> x.spare(0));
        refuses(UNKNOWN, () -> x.fuel(0, 1));
        refuses(UNKNOWN, () -> x.using(0, 0));
        refuses(UNKNOWN, () -> x.key(0, 0));
        refuses(UNKNOWN, () -> x.cost(0, 0));
        refuses(UNKNOWN, () -> x.vehicleAt(0, 0));
        is(-1, () -> x.skipped(0));
        is(0, () -> x.tick(1));
    }

    private static void listsWithoutItems() {
        VehicleChecks x = new VehicleChecks();
        for (int kind = 0; kind < 5; kind++) {
            int k = kind;
            x.vehicle(k, false);
            x.use(k, 1);
            for (int item = 0; item < 10; item++) {
                int i = item;
                refuses(STATE, () -> x.unlist(k, i));
                is(0, () -> x.item(k, i, 0));
            }
            is(-1, () -> x.reason(k, 0));
        }
        is(5, () -> x.tick(5000));
        is(-1, () -> x.skipped(0));
    }

    private static void nothingIsNeeded() {
        VehicleChecks x = new VehicleChecks();
        for (int kind = 0; kind < 5; kind++) {
            int k = kind;
            x.vehicle(k, false);
            x.vehicle(k, true);
            is(2 * k + 1, () -> x.spare(2 * k));
        }
    }

    private static void oneMoreVehicle() {
        VehicleChecks x = new VehicleChecks();
        VehicleChecks y = new VehicleChecks();
        for (int v = 0; v < 20; v++) {
            int one = v;
            is(one, () -> x.vehicle(4 - one % 5, one % 3 == 0));
        }
        is(0, () -> y.vehicle(0, true));
        is(20, () -> x.tick(1));
    }

    private static void vehicleOfNoSuchKind() {
        VehicleChecks x = new VehicleChecks();
        refusesEach(UNKNOWN, kind -> x.vehicle(kind, false), -1, 5);
        refusesEach(UNKNOWN, kind -> x.vehicle(kind, true), -1, 5);
        is(0, () -> x.vehicle(0, false));
        refuses(UNKNOWN, () -> x.vehicle(5, false));
        is(1, () -> x.vehicle(4, false));
    }

    private static void thereAreTwenty() {
        VehicleChecks x = new VehicleChecks();
        for (int v = 0; v < 19; v++) {
            x.vehicle(0, false);
        }
        is(19, () -> x.vehicle(0, false));
        for (int kind = 0; kind < 5; kind++) {
            int one = kind;
            refuses(ROOM, () -> x.vehicle(one, true));
        }
        refuses(UNKNOWN, () -> x.runs(20));
        is(20, () -> x.tick(1));
    }

    private static void itemOfAList() {
        VehicleChecks x = new VehicleChecks();
        for (int kind = 0; kind < 5; kind++) {
            x.vehicle(kind, false);
        }
        does(() -> x.list(0, 0, 1, 1, 1, 1));
        does(() -> x.list(4, 9, 2, 2, 2, 2));
        for (int v = 0; v < 5; v++) {
            int one = v;
            is(one == 0 ? 1 : 0, () -> x.item(one, 0, 0));
            is(one == 4 ? 1 : 0, () -> x.item(one, 9, 0));
            is(0, () -> x.item(one, 5, 0));
        }
    }

    private static void toldAnew() {
        VehicleChecks x = withVehicles(0, false);
        x.list(0, 0, 0, 10, 1, 5);
        x.answer(0, 0, 10, 0);
        x.tick(5);
        is(10_100, () -> x.reason(0, 0));
        does(() -> x.list(0, 0, 0, 9, 2, 6));
        is(20_000, () -> x.reason(0, 0));
        is(-1, () -> x.reason(0, 1));
        does(() -> x.list(0, 0, 10, 11, 3, 0));
        is(-1, () -> x.reason(0, 0));
        x.use(0, 1);
        is(30_100, () -> x.reason(0, 0));
        is(-1, () -> x.reason(0, 1));
        is(1, () -> x.item(0, 0, 0));
        does(() -> x.unlist(0, 0));
        is(0, () -> x.item(0, 0, 0));
    }

    private static void listOfNoSuchKindOrItem() {
        VehicleChecks x = withVehicles(0, false);
        refusesEach(UNKNOWN, kind -> x.list(kind, 0, 0, 0, 1, 0), -1, 5);
        refusesEach(UNKNOWN, item -> x.list(0, item, 0, 0, 1, 0), -1, 10);
        refuses(UNKNOWN, () -> x.list(5, 10, 0, 0, 1, 0));
        is(0, () -> x.item(0, 0, 0));
        is(0, () -> x.item(0, 9, 0));
    }

    private static void listRefusesLimits() {
        VehicleChecks x = withVehicles(0, false);
        x.list(0, 0, 3, 5, 1, 0);
        refusesEach(RANGE, low -> x.list(0, 0, low, 9999, 1, 0), -10_000, 10_000);
        refusesEach(RANGE, high -> x.list(0, 0, -9999, high, 1, 0), -10_000, 10_000);
        refuses(RANGE, () -> x.list(0, 0, 4, 3, 1, 0));
        refuses(RANGE, () -> x.list(0, 0, -10_000, -9999, 1, 0));
        refuses(RANGE, () -> x.list(0, 0, 9999, 10_000, 1, 0));
        is(false, () -> x.answer(0, 0, 2, 0));
        is(true, () -> x.answer(0, 0, 3, 0));
        is(true, () -> x.answer(0, 0, 5, 0));
        is(false, () -> x.answer(0, 0, 6, 0));
    }

    private static void listRefusesGrades() {
        VehicleChecks x = withVehicles(0, false);
        x.list(0, 0, 3, 5, 2, 0);
        x.answer(0, 0, 0, 0);
        refusesEach(RANGE, grade -> x.list(0, 0, 0, 0, grade, 0), 0, -1, 4);
        is(20_000, () -> x.reason(0, 0));
        doesEach(grade -> x.list(0, 0, 3, 5, grade, 0), 1, 2, 3);
        is(30_000, () -> x.reason(0, 0));
    }

    private static void listRefusesEvery() {
        VehicleChecks x = withVehicles(0, false);
        x.list(0, 0, 0, 0, 1, 2);
        refusesEach(RANGE, every -> x.list(0, 0, 0, 0, 1, every), -1, 5001);
        x.tick(1);
        is(0, () -> x.item(0, 0, 5));
        x.tick(1);
        is(1, () -> x.item(0, 0, 5));
        doesEach(every -> x.list(0, 0, 0, 0, 1, every), 0, 1, 5000);
        is(0, () -> x.item(0, 0, 5));
    }

    private static void goesOffTheList() {
        VehicleChecks x = withVehicles(0, false);
        x.vehicle(1, false);
        for (int kind = 0; kind < 2; kind++) {
            x.list(kind, 0, 0, 0, 1, 0);
            x.list(kind, 9, 0, 0, 1, 0);
        }
        does(() -> x.unlist(0, 9));
        is(1, () -> x.item(0, 0, 0));
        is(0, () -> x.item(0, 9, 0));
        is(1, () -> x.item(1, 9, 0));
        does(() -> x.unlist(1, 0));
        is(1, () -> x.item(0, 0, 0));
        is(0, () -> x.item(1, 0, 0));
        does(() -> x.list(0, 9, 0, 0, 1, 0));
        is(1, () -> x.item(0, 9, 0));
    }

    private static void unlistOfNoSuchKindOrItem() {
        VehicleChecks x = withVehicles(0, false);
        x.list(0, 0, 0, 0, 1, 0);
        x.list(0, 9, 0, 0, 1, 0);
        refusesEach(UNKNOWN, kind -> x.unlist(kind, 0), -1, 5);
        refusesEach(UNKNOWN, item -> x.unlist(0, item), -1, 10);
        is(1, () -> x.item(0, 0, 0));
        is(1, () -> x.item(0, 9, 0));
    }

    private static void unlistWhatIsNotOnIt() {
        VehicleChecks x = new VehicleChecks();
        refuses(STATE, () -> x.unlist(0, 0));
        refuses(STATE, () -> x.unlist(4, 9));
        x.list(0, 0, 0, 0, 1, 0);
        refuses(STATE, () -> x.unlist(0, 1));
        refuses(STATE, () -> x.unlist(1, 0));
        does(() -> x.unlist(0, 0));
        refuses(STATE, () -> x.unlist(0, 0));
    }

    private static void answerWithinTheLimits() {
        VehicleChecks x = withVehicles(0, false);
        x.list(0, 0, -2, 3, 1, 0);
        is(false, () -> x.answer(0, 0, -3, 0));
        is(true, () -> x.answer(0, 0, -2, 0));
        is(true, () -> x.answer(0, 0, 3, 0));
        is(false, () -> x.answer(0, 0, 4, 0));
        is(4, () -> x.item(0, 0, 1));
        x.tick(9);
        x.answer(0, 0, 0, 0);
        is(9, () -> x.item(0, 0, 2));
        x.off(0, true, 0, 1);
        is(false, () -> x.answer(0, 0, 5, 0));
        is(5, () -> x.item(0, 0, 1));
    }

    private static void answerOfNoSuchVehicle() {
        VehicleChecks x = withVehicles(0, false, false);
        x.list(0, 0, 0, 0, 1, 0);
        refusesEach(UNKNOWN, vehicle -> x.answer(vehicle, 0, 0, 0), -1, 2, 19, 20);
        is(true, () -> x.answer(1, 0, 0, 0));
        is(-1, () -> x.item(0, 0, 2));
    }

    private static void answerOfNoSuchItemOrPerson() {
        VehicleChecks x = withVehicles(0, false);
        x.list(0, 0, 0, 0, 1, 0);
        x.list(0, 9, 0, 0, 1, 0);
        refusesEach(UNKNOWN, item -> x.answer(0, item, 0, 0), -1, 10);
        refusesEach(UNKNOWN, person -> x.answer(0, 0, 0, person), -1, 40);
        is(-1, () -> x.item(0, 0, 2));
        is(true, () -> x.answer(0, 9, 0, 39));
        is(true, () -> x.answer(0, 0, 0, 0));
    }

    private static void answerRefusesValues() {
        VehicleChecks x = withVehicles(0, false);
        x.list(0, 0, 0, 0, 1, 0);
        refusesEach(RANGE, value -> x.answer(0, 0, value, 0), -100_000, 100_000);
        is(-1, () -> x.item(0, 0, 2));
        is(false, () -> x.answer(0, 0, -99_999, 0));
        is(-99_999, () -> x.item(0, 0, 1));
        is(false, () -> x.answer(0, 0, 99_999, 0));
        is(99_999, () -> x.item(0, 0, 1));
    }

    private static void answerWhatIsNotOnTheList() {
        VehicleChecks x = withVehicles(0, false);
        x.list(1, 0, 0, 0, 1, 0);
        refuses(STATE, () -> x.answer(0, 0, 0, 0));
        x.list(0, 0, 0, 0, 1, 0);
        is(true, () -> x.answer(0, 0, 0, 0));
        refuses(STATE, () -> x.answer(0, 1, 0, 0));
        x.unlist(0, 0);
        refuses(STATE, () -> x.answer(0, 0, 0, 0));
    }

    private static void itemOnTheList() {
        VehicleChecks x = withVehicles(0, false);
        is(0, () -> x.item(0, 0, 0));
        x.list(0, 0, 0, 0, 1, 0);
        is(1, () -> x.item(0, 0, 0));
        is(0, () -> x.item(0, 1, 0));
        x.unlist(0, 0);
        is(0, () -> x.item(0, 0, 0));
    }

    private static void itemValue() {
        VehicleChecks x = withVehicles(0, false);
        is(0, () -> x.item(0, 0, 1));
        x.list(0, 0, 5, 5, 1, 0);
        is(0, () -> x.item(0, 0, 1));
        x.answer(0, 0, -7, 0);
        is(-7, () -> x.item(0, 0, 1));
        x.answer(0, 0, 5, 0);
        is(5, () -> x.item(0, 0, 1));
    }

    private static void itemHour() {
        VehicleChecks x = withVehicles(0, false);
        is(-1, () -> x.item(0, 0, 2));
        x.list(0, 0, 5, 5, 1, 0);
        x.tick(3);
        is(-1, () -> x.item(0, 0, 2));
        x.answer(0, 0, 5, 0);
        is(3, () -> x.item(0, 0, 2));
        x.tick(3);
        is(3, () -> x.item(0, 0, 2));
    }

    private static void itemPerson() {
        VehicleChecks x = withVehicles(0, false);
        is(-1, () -> x.item(0, 0, 3));
        x.list(0, 0, 5, 5, 1, 0);
        is(-1, () -> x.item(0, 0, 3));
        x.answer(0, 0, 5, 0);
        is(0, () -> x.item(0, 0, 3));
        x.answer(0, 0, 5, 39);
        is(39, () -> x.item(0, 0, 3));
    }

    private static void itemFails() {
        VehicleChecks x = withVehicles(0, false);
        is(0, () -> x.item(0, 0, 4));
        x.list(0, 0, 5, 5, 1, 0);
        is(0, () -> x.item(0, 0, 4));
        x.answer(0, 0, 4, 0);
        is(1, () -> x.item(0, 0, 4));
        x.answer(0, 0, 5, 0);
        is(0, () -> x.item(0, 0, 4));
        x.use(0, 1);
        is(0, () -> x.item(0, 0, 4));
    }

    private static void itemIsSkipped() {
        VehicleChecks x = withVehicles(0, false);
        is(0, () -> x.item(0, 0, 5));
        x.list(0, 0, 5, 5, 1, 2);
        x.answer(0, 0, 4, 0);
        is(0, () -> x.item(0, 0, 5));
        x.tick(2);
        is(1, () -> x.item(0, 0, 5));
        x.off(0, true, 0, 1);
        is(1, () -> x.item(0, 0, 5));
        x.answer(0, 0, 4, 0);
        is(0, () -> x.item(0, 0, 5));
    }

    private static void itemRefuses() {
        VehicleChecks x = withVehicles(0, false, false);
        x.list(0, 0, 0, 0, 1, 0);
        refusesEach(UNKNOWN, vehicle -> x.item(vehicle, 0, 0), -1, 2, 19, 20);
        refusesEach(UNKNOWN, item -> x.item(0, item, 0), -1, 10);
        refusesEach(UNKNOWN, what -> x.item(0, 0, what), -1, 6);
        refusesEach(UNKNOWN, what -> x.item(0, 1, what), -1, 6);
        is(1, () -> x.item(1, 0, 0));
        is(0, () -> x.item(1, 9, 5));
    }
}
