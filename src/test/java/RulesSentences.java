/** The section "Terms" from FAILS on: what fails, is skipped, runs, is a reason, a spare, the use of fuel. */
final class RulesSentences extends Sentences {
    static void all() {
        terms("An item FAILS when its latest answer's value is", RulesSentences::failsByItsLatestAnswer);
        terms("below low", RulesSentences::failsBelowLow);
        terms("or above high", RulesSentences::failsAboveHigh);
        terms("(by the list as it is now).", RulesSentences::failsByTheListAsItIsNow);
        terms("It is SKIPPED when every is above 0 and so many hours or more have gone by since its latest answer",
            RulesSentences::skippedByHours);
        terms("(without one since the hour at which the vehicle was told),", RulesSentences::skippedSinceToldHour);
        terms("or every is 0 and the vehicle was used since its latest answer", RulesSentences::skippedByUse);
        terms("(without one ever).", RulesSentences::skippedByUseEver);
        terms("An item that is not on the list neither fails nor is skipped.", RulesSentences::notOnTheList);
        terms("DAMAGES 0, 1, .. (at most 100) are of a vehicle, have a grade,", RulesSentences::hundredDamages);
        terms("are OPEN until there is a proof (1 .. 9,999).", RulesSentences::openUntilAProof);
        terms("A vehicle RUNS when it is on the run,", RulesSentences::runsOnTheRun);
        terms("and has no REASON of grade 3,", RulesSentences::runsWithoutGradeThree);
        terms("and less than two of grade 2.", RulesSentences::runsWithLessThanTwoOfGradeTwo);
        terms("REASONS are, in this order: items that fail, by numbers;", RulesSentences::failingItemsFirst);
        terms("items that are skipped, by numbers;", RulesSentences::skippedItemsNext);
        terms("open damages, by numbers;", RulesSentences::openDamagesLast);
        terms("each with its grade.", RulesSentences::eachWithItsGrade);
        terms("It comes off the run, or on it, by two persons who are not one.", RulesSentences::twoPersons);
        terms("A SPARE for a vehicle: of the other ones", RulesSentences::spareIsAnotherOne);
        terms("of its kind", RulesSentences::spareIsOfItsKind);
        terms("that are spare", RulesSentences::spareIsSpare);
        terms("and run,", RulesSentences::spareRuns);
        terms("the one with the fewest kilometres,", RulesSentences::spareHasTheFewestKilometres);
        terms("of the same the lowest number.", RulesSentences::spareHasTheLowestNumber);
        terms("FUEL: each filling tells millilitres (1 .. 1,000,000),", RulesSentences::fillings);
        terms("all of them together over all kilometres (from 0 on)", RulesSentences::allOfThemOverAllKilometres);
        terms("make the USE in millilitres per 100 kilometres.", RulesSentences::perHundredKilometres);
    }

    private static void terms(String words, Runnable test) {
        sentence("Terms", words, test);
    }

    private static void failsByItsLatestAnswer() {
        VehicleChecks x = withVehicles(0, false, false);
        x.list(0, 0, 5, 9, 1, 0);
        is(0, () -> x.item(0, 0, 4));
        x.answer(0, 0, 4, 0);
        is(1, () -> x.item(0, 0, 4));
        is(0, () -> x.item(1, 0, 4));
        x.answer(0, 0, 5, 0);
        is(0, () -> x.item(0, 0, 4));
        x.answer(0, 0, 10, 0);
        is(1, () -> x.item(0, 0, 4));
    }

    private static void failsBelowLow() {
        VehicleChecks x = withVehicles(0, false);
        for (int low : new int[] {-9999, -1, 0, 1, 9999}) {
            x.list(0, 0, low, 9999, 1, 0);
            is(true, () -> x.answer(0, 0, low, 0));
            is(0, () -> x.item(0, 0, 4));
            is(false, () -> x.answer(0, 0, low - 1, 0));
            is(1, () -> x.item(0, 0, 4));
        }
        is(false, () -> x.answer(0, 0, -99_999, 0));
        is(1, () -> x.item(0, 0, 4));
    }

    private static void failsAboveHigh() {
        VehicleChecks x = withVehicles(0, false);
        for (int high : new int[] {-9999, -1, 0, 1, 9999}) {
            x.list(0, 0, -9999, high, 1, 0);
            is(true, () -> x.answer(0, 0, high, 0));
            is(0, () -> x.item(0, 0, 4));
            is(false, () -> x.answer(0, 0, high + 1, 0));
            is(1, () -> x.item(0, 0, 4));
        }
        is(false, () -> x.answer(0, 0, 99_999, 0));
        is(1, () -> x.item(0, 0, 4));
    }

    private static void failsByTheListAsItIsNow() {
        VehicleChecks x = withVehicles(0, false);
        x.list(0, 0, 0, 9, 3, 0);
        is(true, () -> x.answer(0, 0, 9, 0));
        x.list(0, 0, 0, 8, 3, 0);
        is(1, () -> x.item(0, 0, 4));
        is(false, () -> x.runs(0));
        x.list(0, 0, 9, 9, 3, 0);
        is(0, () -> x.item(0, 0, 4));
        x.list(0, 0, 10, 11, 3, 0);
        is(1, () -> x.item(0, 0, 4));
        x.list(0, 0, 0, 9, 3, 0);
        is(true, () -> x.runs(0));
    }

    private static void skippedByHours() {
        for (int every : new int[] {1, 2, 5000}) {
            VehicleChecks x = withVehicles(0, false);
            x.tick(7);
            x.list(0, 0, 0, 0, 1, every);
            x.answer(0, 0, 0, 0);
            is(0, () -> x.item(0, 0, 5));
            if (every > 1) {
                x.tick(every - 1);
                is(0, () -> x.item(0, 0, 5));
            }
            x.use(0, 3);
            is(0, () -> x.item(0, 0, 5));
            x.tick(1);
            is(1, () -> x.item(0, 0, 5));
            x.tick(1);
            is(1, () -> x.item(0, 0, 5));
            x.answer(0, 0, 5, 0);
            is(0, () -> x.item(0, 0, 5));
        }
    }

    private static void skippedSinceToldHour() {
        VehicleChecks x = withVehicles(0, false);
        x.tick(10);
        x.vehicle(0, false);
        x.list(0, 0, 0, 0, 1, 10);
        is(1, () -> x.item(0, 0, 5));
        is(0, () -> x.item(1, 0, 5));
        x.tick(9);
        is(0, () -> x.item(1, 0, 5));
        x.tick(1);
        is(1, () -> x.item(1, 0, 5));
        x.list(0, 0, 0, 0, 1, 11);
        is(1, () -> x.item(0, 0, 5));
        is(0, () -> x.item(1, 0, 5));
        x.answer(0, 0, 0, 0);
        is(0, () -> x.item(0, 0, 5));
    }

    private static void skippedByUse() {
        VehicleChecks x = withVehicles(0, false, false);
        x.list(0, 0, 0, 0, 1, 0);
        x.answer(0, 0, 0, 0);
        x.tick(5000);
        is(0, () -> x.item(0, 0, 5));
        x.use(1, 1);
        is(0, () -> x.item(0, 0, 5));
        x.use(0, 1);
        is(1, () -> x.item(0, 0, 5));
        x.use(0, 1);
        is(1, () -> x.item(0, 0, 5));
        x.answer(0, 0, 0, 0);
        is(0, () -> x.item(0, 0, 5));
        is(false, () -> x.use(0, 0));
        is(1, () -> x.item(0, 0, 5));
    }

    private static void skippedByUseEver() {
        VehicleChecks x = withVehicles(0, false, false);
        x.tick(5000);
        x.use(0, 1);
        x.list(0, 0, 0, 0, 1, 0);
        is(1, () -> x.item(0, 0, 5));
        is(0, () -> x.item(1, 0, 5));
        x.use(1, 0);
        is(1, () -> x.item(1, 0, 5));
    }

    private static void notOnTheList() {
        VehicleChecks x = withVehicles(0, false);
        x.list(0, 0, 0, 0, 3, 0);
        x.list(0, 1, 0, 0, 3, 1);
        x.use(0, 1);
        x.answer(0, 1, 9, 0);
        x.tick(1);
        is(1, () -> x.item(0, 0, 5));
        is(1, () -> x.item(0, 1, 4));
        is(1, () -> x.item(0, 1, 5));
        x.unlist(0, 0);
        x.unlist(0, 1);
        for (int item = 0; item < 10; item++) {
            int one = item;
            is(0, () -> x.item(0, one, 4));
            is(0, () -> x.item(0, one, 5));
        }
        is(-1, () -> x.reason(0, 0));
        is(-1, () -> x.skipped(0));
        is(true, () -> x.runs(0));
    }

    private static void hundredDamages() {
        VehicleChecks x = withVehicles(0, false, false);
        for (int d = 0; d < 100; d++) {
            int one = d;
            is(one, () -> x.damage(one == 99 ? 1 : 0, one == 99 ? 3 : 1));
        }
        refuses(ROOM, () -> x.damage(0, 1));
        is(99, () -> x.vehicleAt(0, 4));
        is(1, () -> x.vehicleAt(1, 4));
        is(11_000, () -> x.reason(0, 0));
        is(11_098, () -> x.reason(0, 98));
        is(-1, () -> x.reason(0, 99));
        is(31_099, () -> x.reason(1, 0));
        is(true, () -> x.runs(0));
        is(false, () -> x.runs(1));
    }

    private static void openUntilAProof() {
        VehicleChecks x = withVehicles(0, false);
        x.damage(0, 3);
        x.damage(0, 3);
        refusesEach(RANGE, proof -> x.proof(0, proof), 0, -1, 10_000);
        is(2, () -> x.vehicleAt(0, 4));
        does(() -> x.proof(0, 1));
        is(1, () -> x.vehicleAt(0, 4));
        is(31_001, () -> x.reason(0, 0));
        is(false, () -> x.runs(0));
        does(() -> x.proof(1, 9999));
        is(0, () -> x.vehicleAt(0, 4));
        is(-1, () -> x.reason(0, 0));
        is(true, () -> x.runs(0));
    }

    private static void runsOnTheRun() {
        VehicleChecks x = withVehicles(0, false);
        is(true, () -> x.runs(0));
        x.off(0, true, 0, 1);
        is(false, () -> x.runs(0));
        is(-1, () -> x.reason(0, 0));
        x.off(0, false, 0, 1);
        is(true, () -> x.runs(0));
        x.damage(0, 3);
        x.off(0, true, 0, 1);
        x.off(0, false, 0, 1);
        is(false, () -> x.runs(0));
    }

    private static void runsWithoutGradeThree() {
        VehicleChecks x = withVehicles(0, false, false, false);
        x.list(0, 0, 0, 0, 3, 1);
        x.answer(0, 0, 1, 0);
        is(false, () -> x.runs(0));
        x.answer(0, 0, 0, 0);
        is(true, () -> x.runs(0));
        x.tick(1);
        is(false, () -> x.runs(1));
        x.answer(1, 0, 0, 0);
        is(true, () -> x.runs(1));
        x.answer(2, 0, 0, 0);
        x.damage(2, 3);
        is(false, () -> x.runs(2));
        x.proof(0, 1);
        is(true, () -> x.runs(2));
    }

    private static void runsWithLessThanTwoOfGradeTwo() {
        VehicleChecks x = withVehicles(0, false);
        for (int i = 0; i < 9; i++) {
            x.damage(0, 1);
        }
        is(true, () -> x.runs(0));
        int first = x.damage(0, 2);
        is(true, () -> x.runs(0));
        int second = x.damage(0, 2);
        is(false, () -> x.runs(0));
        x.proof(first, 1);
        is(true, () -> x.runs(0));
        x.list(0, 0, 0, 0, 2, 1);
        is(true, () -> x.runs(0));
        x.answer(0, 0, 1, 0);
        is(false, () -> x.runs(0));
        x.proof(second, 1);
        is(true, () -> x.runs(0));
        x.tick(1);
        is(false, () -> x.runs(0));
        x.answer(0, 0, 0, 0);
        is(true, () -> x.runs(0));
    }

    private static void failingItemsFirst() {
        VehicleChecks x = withVehicles(0, false);
        x.damage(0, 3);
        for (int item = 9; item >= 0; item--) {
            x.list(0, item, 0, 0, 1, 1);
            x.answer(0, item, item % 3 == 0 ? 1 : 0, 0);
        }
        x.tick(1);
        for (int i = 0; i < 4; i++) {
            int place = i;
            is(10_000 + 3 * place, () -> x.reason(0, place));
        }
        is(10_100, () -> x.reason(0, 4));
    }

    private static void skippedItemsNext() {
        VehicleChecks x = withVehicles(0, false);
        x.damage(0, 3);
        for (int item = 9; item >= 0; item--) {
            x.list(0, item, 0, 0, 1, item % 2 == 0 ? 1 : 2);
        }
        x.answer(0, 9, 1, 0);
        x.tick(1);
        is(10_009, () -> x.reason(0, 0));
        for (int i = 0; i < 5; i++) {
            int place = i;
            is(10_100 + 2 * place, () -> x.reason(0, 1 + place));
        }
        is(31_000, () -> x.reason(0, 6));
        is(-1, () -> x.reason(0, 7));
    }

    private static void openDamagesLast() {
        VehicleChecks x = withVehicles(0, false, false);
        for (int i = 0; i < 6; i++) {
            x.damage(i % 2, 3 - i / 2);
        }
        x.list(0, 0, 0, 0, 1, 1);
        x.tick(1);
        is(10_100, () -> x.reason(0, 0));
        is(31_000, () -> x.reason(0, 1));
        is(21_002, () -> x.reason(0, 2));
        is(11_004, () -> x.reason(0, 3));
        is(-1, () -> x.reason(0, 4));
        is(31_001, () -> x.reason(1, 1));
        x.proof(2, 1);
        is(11_004, () -> x.reason(0, 2));
        is(-1, () -> x.reason(0, 3));
    }

    private static void eachWithItsGrade() {
        VehicleChecks x = withVehicles(0, false);
        for (int grade = 1; grade <= 3; grade++) {
            x.list(0, grade, 0, 0, grade, 1);
            x.answer(0, grade, 1, 0);
            x.damage(0, grade);
        }
        x.tick(1);
        for (int grade = 1; grade <= 3; grade++) {
            int one = grade;
            is(one * 10_000 + one, () -> x.reason(0, one - 1));
            is(one * 10_000 + 100 + one, () -> x.reason(0, 2 + one));
            is(one * 10_000 + 1_000 + one - 1, () -> x.reason(0, 5 + one));
        }
        x.list(0, 1, 0, 0, 3, 1);
        is(30_001, () -> x.reason(0, 0));
        is(30_101, () -> x.reason(0, 3));
    }

    private static void twoPersons() {
        VehicleChecks x = withVehicles(0, false);
        for (int person : new int[] {0, 1, 39}) {
            refuses(STATE, () -> x.off(0, true, person, person));
        }
        is(1, () -> x.vehicleAt(0, 1));
        does(() -> x.off(0, true, 0, 1));
        for (int person : new int[] {0, 1, 39}) {
            refuses(STATE, () -> x.off(0, false, person, person));
        }
        is(0, () -> x.vehicleAt(0, 1));
        does(() -> x.off(0, false, 1, 0));
    }

    private static void spareIsAnotherOne() {
        VehicleChecks x = withVehicles(0, true);
        is(-1, () -> x.spare(0));
        x.vehicle(0, true);
        is(1, () -> x.spare(0));
        is(0, () -> x.spare(1));
        x.off(1, true, 0, 1);
        is(-1, () -> x.spare(0));
        VehicleChecks full = new VehicleChecks();
        for (int v = 0; v < 20; v++) {
            full.vehicle(0, v >= 18);
        }
        is(18, () -> full.spare(0));
        is(19, () -> full.spare(18));
        is(18, () -> full.spare(19));
    }

    private static void spareIsOfItsKind() {
        VehicleChecks x = withVehicles(0, false);
        for (int kind = 1; kind < 5; kind++) {
            x.vehicle(kind, true);
            is(-1, () -> x.spare(0));
        }
        x.use(0, 1);
        x.vehicle(0, true);
        x.use(5, 1000);
        is(5, () -> x.spare(0));
    }

    private static void spareIsSpare() {
        VehicleChecks x = withVehicles(0, false, false);
        is(-1, () -> x.spare(0));
        x.vehicle(0, true);
        x.use(2, 9);
        is(2, () -> x.spare(0));
        is(2, () -> x.spare(1));
    }

    private static void spareRuns() {
        VehicleChecks x = withVehicles(0, false, true, true);
        x.use(2, 9);
        is(1, () -> x.spare(0));
        x.off(1, true, 0, 1);
        is(2, () -> x.spare(0));
        x.off(1, false, 0, 1);
        x.damage(1, 3);
        is(2, () -> x.spare(0));
        x.damage(2, 2);
        is(2, () -> x.spare(0));
        x.damage(2, 2);
        is(-1, () -> x.spare(0));
        x.off(0, true, 0, 1);
        x.proof(0, 1);
        is(1, () -> x.spare(0));
    }

    private static void spareHasTheFewestKilometres() {
        VehicleChecks x = withVehicles(0, false, true, true, true);
        x.use(1, 1_000_000);
        x.use(2, 999_999);
        x.use(3, 999_998);
        is(3, () -> x.spare(0));
        x.use(3, 1_000_000);
        is(2, () -> x.spare(0));
        is(false, () -> x.use(3, 0));
        is(2, () -> x.spare(0));
    }

    private static void spareHasTheLowestNumber() {
        VehicleChecks x = withVehicles(0, true, true, true);
        is(1, () -> x.spare(0));
        is(0, () -> x.spare(1));
        is(0, () -> x.spare(2));
        x.use(0, 7);
        x.use(1, 7);
        x.use(2, 7);
        is(0, () -> x.spare(2));
        x.use(0, 8);
        is(1, () -> x.spare(2));
    }

    private static void fillings() {
        VehicleChecks x = withVehicles(0, false);
        refusesEach(RANGE, filled -> x.fuel(0, filled), 0, -1, 1_000_001);
        is(1, () -> x.fuel(0, 1));
        is(1_000_001, () -> x.fuel(0, 1_000_000));
    }

    private static void allOfThemOverAllKilometres() {
        VehicleChecks x = withVehicles(0, false);
        x.fuel(0, 3);
        x.use(0, 100);
        is(3, () -> x.using(0, 0));
        x.fuel(0, 4);
        is(7, () -> x.using(0, 0));
        is(1, () -> x.using(0, 1));
        x.use(0, 300);
        is(7, () -> x.using(0, 0));
        is(3, () -> x.using(0, 1));
        x.use(0, 50);
        is(3, () -> x.using(0, 1));
    }

    private static void perHundredKilometres() {
        VehicleChecks x = withVehicles(0, false);
        x.fuel(0, 1);
        x.use(0, 1);
        is(100, () -> x.using(0, 0));
        is(1, () -> x.using(0, 1));
        x.use(0, 100);
        is(1, () -> x.using(0, 0));
        is(1, () -> x.using(0, 1));
        x.use(0, 1_000_000);
        is(1, () -> x.using(0, 0));
        is(10_000, () -> x.using(0, 1));
    }
}
