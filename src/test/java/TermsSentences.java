/** The section "Terms" up to the answers: the ranges of numbers, and how things are at first. */
final class TermsSentences extends Sentences {
    static void all() {
        terms("TIME is in hours, 0 .. 99,999;", TermsSentences::timeEndsAtItsLastHour);
        terms("THE HOUR is 0 at first and goes on by tick().", TermsSentences::theHourGoesOn);
        terms("PERSONS 0 .. 39,", TermsSentences::persons);
        terms("THINGS 0 .. 9.", TermsSentences::things);
        terms("KINDS 0 .. 4 of vehicles", TermsSentences::kinds);
        terms("have LISTS of ITEMS 0 .. 9,", TermsSentences::items);
        terms("each with limits LOW <= HIGH", TermsSentences::lowIsNotAboveHigh);
        terms("(-9,999 .. 9,999),", TermsSentences::limits);
        terms("a GRADE (1 .. 3)", TermsSentences::grades);
        terms("and EVERY (0 .. 5,000 hours;", TermsSentences::every);
        terms("0: behind each use);", TermsSentences::behindEachUse);
        terms("they NEED so many (0 .. 9) of each thing.", TermsSentences::need);
        terms("VEHICLES 0, 1, .. (at most 20) have a kind,", TermsSentences::vehicles);
        terms("KILOMETRES (0 at first),", TermsSentences::kilometresAtFirst);
        terms("things (none at first),", TermsSentences::thingsAtFirst);
        terms("are SPARE or not,", TermsSentences::spareOrNot);
        terms("ON the run (at first) or OFF it.", TermsSentences::onTheRunAtFirst);
        terms("For each item of their kind's list they have the latest ANSWER,", TermsSentences::latestAnswer);
        terms("if there was one: a value, the hour, a person.", TermsSentences::answerIfThereWasOne);
    }

    private static void terms(String words, Runnable test) {
        sentence("Terms", words, test);
    }

    private static void timeEndsAtItsLastHour() {
        VehicleChecks x = withVehicles(0, false);
        x.list(0, 0, 0, 0, 1, 0);
        x.answer(0, 0, 0, 0);
        is(0, () -> x.item(0, 0, 2));
        for (int i = 0; i < 19; i++) {
            x.tick(5000);
        }
        refuses(RANGE, () -> x.tick(5000));
        is(1, () -> x.tick(4998));
        refuses(RANGE, () -> x.tick(2));
        is(1, () -> x.tick(1));
        refusesEach(RANGE, x::tick, 1, 2, 4999, 5000);
        x.answer(0, 0, 0, 0);
        is(99_999, () -> x.item(0, 0, 2));
    }

    private static void theHourGoesOn() {
        VehicleChecks x = withVehicles(0, false);
        x.list(0, 0, 0, 0, 1, 0);
        x.answer(0, 0, 0, 0);
        is(0, () -> x.item(0, 0, 2));
        x.tick(1);
        x.answer(0, 0, 0, 0);
        is(1, () -> x.item(0, 0, 2));
        x.tick(5000);
        is(1, () -> x.item(0, 0, 2));
        x.answer(0, 0, 0, 0);
        is(5001, () -> x.item(0, 0, 2));
    }

    private static void persons() {
        VehicleChecks x = withVehicles(0, false);
        x.list(0, 0, 0, 0, 1, 0);
        refusesEach(UNKNOWN, person -> x.answer(0, 0, 0, person), -1, 40);
        is(-1, () -> x.item(0, 0, 3));
        doesEach(person -> x.answer(0, 0, 0, person), 0, 39);
        is(39, () -> x.item(0, 0, 3));
        refusesEach(UNKNOWN, person -> x.off(0, true, person, 5), -1, 40);
        refusesEach(UNKNOWN, person -> x.off(0, true, 5, person), -1, 40);
        is(1, () -> x.vehicleAt(0, 1));
        does(() -> x.off(0, true, 0, 39));
        does(() -> x.off(0, false, 39, 0));
        refusesEach(UNKNOWN, person -> x.key(0, person), -2, 40);
        is(-1, () -> x.key(0, 0));
        is(0, () -> x.key(0, 39));
        is(39, () -> x.vehicleAt(0, 5));
    }

    private static void things() {
        VehicleChecks x = withVehicles(0, false, true);
        refusesEach(UNKNOWN, thing -> x.need(0, thing, 1), -1, 10);
        refusesEach(UNKNOWN, thing -> x.put(0, thing, 1), -1, 10);
        refusesEach(UNKNOWN, thing -> x.swap(0, 1, thing), -1, 10);
        for (int thing : new int[] {0, 9}) {
            does(() -> x.need(0, thing, 2));
            is(-2 - thing, () -> x.spare(0));
            is(2, () -> x.put(0, thing, 2));
            is(0, () -> x.swap(0, 1, thing));
            is(1, () -> x.spare(0));
        }
    }

    private static void kinds() {
        VehicleChecks x = new VehicleChecks();
        refusesEach(UNKNOWN, kind -> x.vehicle(kind, false), -1, 5);
        is(0, () -> x.vehicle(0, false));
        is(1, () -> x.vehicle(4, false));
        refusesEach(UNKNOWN, kind -> x.list(kind, 7, 0, 0, 1, 0), -1, 5);
        doesEach(kind -> x.list(kind, 7, 0, 0, 1, 0), 0, 4);
        is(1, () -> x.item(0, 7, 0));
        is(1, () -> x.item(1, 7, 0));
        refusesEach(UNKNOWN, kind -> x.unlist(kind, 7), -1, 5);
        doesEach(kind -> x.unlist(kind, 7), 0, 4);
        is(0, () -> x.item(0, 7, 0));
        is(0, () -> x.item(1, 7, 0));
        refusesEach(UNKNOWN, kind -> x.need(kind, 0, 1), -1, 5);
        doesEach(kind -> x.need(kind, 0, 1), 0, 4);
    }

    private static void items() {
        VehicleChecks x = withVehicles(0, false);
        refusesEach(UNKNOWN, item -> x.list(0, item, 0, 0, 1, 0), -1, 10);
        refusesEach(UNKNOWN, item -> x.unlist(0, item), -1, 10);
        refusesEach(UNKNOWN, item -> x.answer(0, item, 0, 0), -1, 10);
        refusesEach(UNKNOWN, item -> x.item(0, item, 0), -1, 10);
        for (int item : new int[] {0, 9}) {
            is(0, () -> x.item(0, item, 0));
            does(() -> x.list(0, item, 0, 0, 1, 0));
            is(1, () -> x.item(0, item, 0));
            is(true, () -> x.answer(0, item, 0, 0));
            does(() -> x.unlist(0, item));
        }
    }

    private static void lowIsNotAboveHigh() {
        VehicleChecks x = withVehicles(0, false);
        refuses(RANGE, () -> x.list(0, 0, 1, 0, 1, 0));
        refuses(RANGE, () -> x.list(0, 0, -4, -5, 1, 0));
        refuses(RANGE, () -> x.list(0, 0, 9999, -9999, 1, 0));
        refuses(RANGE, () -> x.list(0, 0, 9999, 9998, 1, 0));
        is(0, () -> x.item(0, 0, 0));
        does(() -> x.list(0, 0, 6, 6, 1, 0));
        is(false, () -> x.answer(0, 0, 5, 0));
        is(true, () -> x.answer(0, 0, 6, 0));
        is(false, () -> x.answer(0, 0, 7, 0));
        does(() -> x.list(0, 0, 5, 6, 1, 0));
        is(true, () -> x.answer(0, 0, 5, 0));
    }

    private static void limits() {
        VehicleChecks x = withVehicles(0, false);
        refusesEach(RANGE, low -> x.list(0, 0, low, 9999, 1, 0), -10_000, 10_000);
        refusesEach(RANGE, high -> x.list(0, 0, -9999, high, 1, 0), -10_000, 10_000);
        refusesEach(RANGE, both -> x.list(0, 0, both, both, 1, 0), -10_000, 10_000);
        refuses(RANGE, () -> x.list(0, 0, Integer.MIN_VALUE, Integer.MAX_VALUE, 1, 0));
        refuses(RANGE, () -> x.list(0, 0, Integer.MAX_VALUE, Integer.MIN_VALUE, 1, 0));
        is(0, () -> x.item(0, 0, 0));
        does(() -> x.list(0, 0, -9999, 9999, 1, 0));
        is(true, () -> x.answer(0, 0, -9999, 0));
        is(true, () -> x.answer(0, 0, 9999, 0));
        is(false, () -> x.answer(0, 0, -10_000, 0));
        is(false, () -> x.answer(0, 0, 10_000, 0));
        doesEach(both -> x.list(0, 0, both, both, 1, 0), -9999, 9999);
        is(true, () -> x.answer(0, 0, 9999, 0));
    }

    private static void grades() {
        VehicleChecks x = withVehicles(0, false);
        refusesEach(RANGE, grade -> x.list(0, 0, 0, 0, grade, 0), 0, -1, 4);
        refusesEach(RANGE, grade -> x.damage(0, grade), 0, -1, 4);
        is(0, () -> x.item(0, 0, 0));
        is(0, () -> x.vehicleAt(0, 4));
        x.list(0, 0, 0, 0, 1, 0);
        x.answer(0, 0, 1, 0);
        is(10_000, () -> x.reason(0, 0));
        does(() -> x.list(0, 0, 0, 0, 3, 0));
        is(30_000, () -> x.reason(0, 0));
        is(0, () -> x.damage(0, 1));
        is(1, () -> x.damage(0, 3));
        is(11_000, () -> x.reason(0, 1));
        is(31_001, () -> x.reason(0, 2));
    }

    private static void every() {
        VehicleChecks x = withVehicles(0, false);
        refusesEach(RANGE, every -> x.list(0, 0, 0, 0, 1, every), -1, 5001);
        is(0, () -> x.item(0, 0, 0));
        does(() -> x.list(0, 0, 0, 0, 1, 5000));
        x.tick(4999);
        is(0, () -> x.item(0, 0, 5));
        x.tick(1);
        is(1, () -> x.item(0, 0, 5));
        does(() -> x.list(0, 0, 0, 0, 1, 1));
        x.answer(0, 0, 0, 0);
        is(0, () -> x.item(0, 0, 5));
        x.tick(1);
        is(1, () -> x.item(0, 0, 5));
        does(() -> x.list(0, 0, 0, 0, 1, 0));
        is(0, () -> x.item(0, 0, 5));
    }

    private static void behindEachUse() {
        VehicleChecks x = withVehicles(0, false);
        x.list(0, 0, 0, 0, 1, 0);
        x.tick(5000);
        is(0, () -> x.item(0, 0, 5));
        for (int i = 0; i < 3; i++) {
            x.use(0, 0);
            is(1, () -> x.item(0, 0, 5));
            x.answer(0, 0, 0, 0);
            is(0, () -> x.item(0, 0, 5));
        }
    }

    private static void need() {
        VehicleChecks x = withVehicles(0, false, true);
        refusesEach(RANGE, n -> x.need(0, 3, n), -1, 10);
        is(1, () -> x.spare(0));
        does(() -> x.need(0, 3, 9));
        is(8, () -> x.put(1, 3, 8));
        is(-5, () -> x.spare(0));
        x.put(1, 3, 1);
        is(1, () -> x.spare(0));
        does(() -> x.need(0, 0, 1));
        is(-2, () -> x.spare(0));
        does(() -> x.need(0, 0, 0));
        is(1, () -> x.spare(0));
    }

    private static void vehicles() {
        VehicleChecks x = new VehicleChecks();
        for (int v = 0; v < 20; v++) {
            int one = v;
            refuses(UNKNOWN, () -> x.runs(one));
            is(one, () -> x.vehicle(one % 5, false));
            is(true, () -> x.runs(one));
        }
        refuses(ROOM, () -> x.vehicle(0, false));
        refuses(ROOM, () -> x.vehicle(4, true));
        refusesEach(UNKNOWN, x::runs, -1, 20);
        x.list(4, 6, 0, 0, 1, 0);
        for (int v = 0; v < 20; v++) {
            int one = v;
            is(one % 5 == 4 ? 1 : 0, () -> x.item(one, 6, 0));
        }
    }

    private static void kilometresAtFirst() {
        VehicleChecks x = withVehicles(0, false);
        is(0, () -> x.vehicleAt(0, 0));
        refuses(STATE, () -> x.using(0, 0));
        is(true, () -> x.use(0, 0));
        is(0, () -> x.vehicleAt(0, 0));
        x.use(0, 8);
        is(1, () -> x.vehicle(0, false));
        is(0, () -> x.vehicleAt(1, 0));
    }

    private static void thingsAtFirst() {
        VehicleChecks x = withVehicles(0, false, false);
        for (int thing = 0; thing < 10; thing++) {
            int one = thing;
            refuses(STATE, () -> x.swap(0, 1, one));
            is(1, () -> x.put(0, one, 1));
            is(0, () -> x.swap(0, 1, one));
        }
        x.vehicle(0, false);
        is(0, () -> x.swap(1, 2, 4));
    }

    private static void spareOrNot() {
        VehicleChecks x = withVehicles(0, false, false, true);
        is(2, () -> x.spare(0));
        is(2, () -> x.spare(1));
        is(-1, () -> x.spare(2));
    }

    private static void onTheRunAtFirst() {
        VehicleChecks x = withVehicles(0, false, true);
        is(1, () -> x.vehicleAt(0, 1));
        is(1, () -> x.vehicleAt(1, 1));
        does(() -> x.off(0, true, 0, 1));
        is(0, () -> x.vehicleAt(0, 1));
        is(1, () -> x.vehicleAt(1, 1));
        is(2, () -> x.vehicle(0, false));
        is(1, () -> x.vehicleAt(2, 1));
    }

    private static void latestAnswer() {
        VehicleChecks x = withVehicles(0, false, false);
        x.list(0, 0, 0, 9, 1, 0);
        x.list(0, 9, 0, 9, 1, 0);
        x.answer(0, 0, 10, 1);
        x.tick(1);
        x.answer(0, 0, 4, 2);
        x.answer(0, 9, 5, 3);
        x.tick(1);
        x.answer(1, 0, 6, 4);
        answerIs(x, 0, 0, 4, 1, 2);
        answerIs(x, 0, 9, 5, 1, 3);
        answerIs(x, 1, 0, 6, 2, 4);
        answerIs(x, 1, 9, 0, -1, -1);
        is(0, () -> x.item(0, 0, 4));
        x.answer(0, 0, 7, 5);
        answerIs(x, 0, 0, 7, 2, 5);
    }

    private static void answerIfThereWasOne() {
        VehicleChecks x = withVehicles(0, false);
        for (int item = 0; item < 10; item++) {
            answerIs(x, 0, item, 0, -1, -1);
            x.list(0, item, 1, 1, 1, 1);
            answerIs(x, 0, item, 0, -1, -1);
        }
        x.answer(0, 5, 0, 0);
        answerIs(x, 0, 5, 0, 0, 0);
        answerIs(x, 0, 4, 0, -1, -1);
        answerIs(x, 0, 6, 0, -1, -1);
    }

    private static void answerIs(VehicleChecks x, int vehicle, int item, int value, int hour, int person) {
        is(value, () -> x.item(vehicle, item, 1));
        is(hour, () -> x.item(vehicle, item, 2));
        is(person, () -> x.item(vehicle, item, 3));
    }
}
