/** Vehicles and their checks, as ../shared/DOC.md promises them. */
public final class VehicleChecks {
    private static final int KINDS = 5;
    private static final int ITEMS = 10;
    private static final int THINGS = 10;
    private static final int PERSONS = 40;
    private static final int MOST_VEHICLES = 20;
    private static final int MOST_DAMAGES = 100;

    private static final int FARTHEST_LIMIT = 9_999;
    private static final int FARTHEST_VALUE = 99_999;
    private static final int LOWEST_GRADE = 1;
    private static final int HIGHEST_GRADE = 3;
    private static final int MOST_EVERY = 5_000;
    private static final int MOST_KILOMETRES = 1_000_000;
    private static final int HIGHEST_PROOF = 9_999;
    private static final int MOST_NEEDED = 9;
    private static final int MOST_PUT = 9;
    private static final int MOST_OF_A_THING = 99;
    private static final int MOST_FILLED = 1_000_000;
    private static final int MOST_CENTS = 10_000_000;
    private static final int MOST_IN_ALL = 1_000_000_000;
    private static final int MOST_TICKED = 5_000;
    private static final int LAST_HOUR = 99_999;

    private static final int NOBODY = -1;
    private static final int NEVER = -1;
    private static final int NONE = -1;
    private static final int LACKS = -2;

    private static final int GRADE_PLACE = 10_000;
    private static final int SKIPPED_PLACE = 100;
    private static final int DAMAGE_PLACE = 1_000;
    private static final int VEHICLE_PLACE = 10;

    // Far above the steps that Euclid's way can need below 10^11.
    private static final int MOST_DIVISIONS = 200;

    private final Kind[] kinds;
    private final Vehicle[] vehicles;
    private final int[] damagedVehicle;
    private final int[] damageGrade;
    private final int[] damageProof;
    private int vehicleCount;
    private int damageCount;
    private int hour;

    public VehicleChecks() {
        kinds = new Kind[KINDS];
        for (int k = 0; k < KINDS; k++) {
            kinds[k] = new Kind();
        }
        vehicles = new Vehicle[MOST_VEHICLES];
        damagedVehicle = new int[MOST_DAMAGES];
        damageGrade = new int[MOST_DAMAGES];
        damageProof = new int[MOST_DAMAGES];
    }

    public int vehicle(int kind, boolean spare) throws IllegalArgumentException, UnsupportedOperationException {
        Kind itsKind = knownKind(kind);
        if (vehicleCount >= MOST_VEHICLES) {
            throw new UnsupportedOperationException("no room for one more vehicle");
        }
        int number = vehicleCount;
        vehicles[number] = new Vehicle(number, itsKind, spare, hour);
        vehicleCount++;
        return number;
    }

    public void list(int kind, int item, int low, int high, int grade, int every)
            throws IllegalArgumentException, IndexOutOfBoundsException {
        Kind itsKind = knownKind(kind);
        checkItem(item);
        checkRange(low, -FARTHEST_LIMIT, FARTHEST_LIMIT);
        checkRange(high, low, FARTHEST_LIMIT);
        checkRange(grade, LOWEST_GRADE, HIGHEST_GRADE);
        checkRange(every, 0, MOST_EVERY);
        itsKind.enter(item, low, high, grade, every);
    }

    public void unlist(int kind, int item) throws IllegalArgumentException, IllegalStateException {
        Kind itsKind = knownKind(kind);
        checkItem(item);
        checkListed(itsKind, item);
        itsKind.listed[item] = false;
    }

    public boolean answer(int vehicle, int item, int value, int person)
            throws IllegalArgumentException, IndexOutOfBoundsException, IllegalStateException {
        Vehicle one = knownVehicle(vehicle);
        checkItem(item);
        checkPerson(person);
        checkRange(value, -FARTHEST_VALUE, FARTHEST_VALUE);
        checkListed(one.kind, item);
        one.keepAnswer(item, value, hour, person);
        return one.kind.isWithin(item, value);
    }

    public int item(int vehicle, int item, int what) throws IllegalArgumentException {
        Vehicle one = knownVehicle(vehicle);
        checkItem(item);
        switch (what) {
            case 0:
                return oneOrZero(one.kind.listed[item]);
            case 1:
                return one.answerValue[item];
            case 2:
                return one.answerHour[item];
            case 3:
                return one.answerPerson[item];
            case 4:
                return oneOrZero(one.hasFailed(item));
            case 5:
                return oneOrZero(one.hasSkipped(item, hour));
            default:
                throw new IllegalArgumentException("no such what");
        }
    }

    public boolean use(int vehicle, int kilometres)
            throws IllegalArgumentException, IndexOutOfBoundsException, IllegalStateException {
        Vehicle one = knownVehicle(vehicle);
        checkRange(kilometres, 0, MOST_KILOMETRES);
        if (!canRun(one)) {
            throw new IllegalStateException("the vehicle does not run");
        }
        return one.keepUse(kilometres);
    }

    public boolean runs(int vehicle) throws IllegalArgumentException {
        return canRun(knownVehicle(vehicle));
    }

    public int reason(int vehicle, int i) throws IllegalArgumentException, IndexOutOfBoundsException {
        Vehicle one = knownVehicle(vehicle);
        checkPlace(i);
        int before = i;
        for (int item = 0; item < ITEMS; item++) {
            if (one.hasFailed(item)) {
                if (before == 0) {
                    return GRADE_PLACE * one.kind.grade[item] + item;
                }
                before--;
            }
        }
        for (int item = 0; item < ITEMS; item++) {
            if (one.hasSkipped(item, hour)) {
                if (before == 0) {
                    return GRADE_PLACE * one.kind.grade[item] + SKIPPED_PLACE + item;
                }
                before--;
            }
        }
        return damageReason(one, before);
    }

    public void off(int vehicle, boolean off, int person, int other)
            throws IllegalArgumentException, IllegalStateException {
        Vehicle one = knownVehicle(vehicle);
        checkPerson(person);
        checkPerson(other);
        if (one.isOff == off) {
            throw new IllegalStateException("the vehicle is so already");
        }
        if (person == other) {
            throw new IllegalStateException("the two persons are one");
        }
        one.isOff = off;
    }

    public int damage(int vehicle, int grade)
            throws IllegalArgumentException, IndexOutOfBoundsException, UnsupportedOperationException {
        Vehicle one = knownVehicle(vehicle);
        checkRange(grade, LOWEST_GRADE, HIGHEST_GRADE);
        if (damageCount >= MOST_DAMAGES) {
            throw new UnsupportedOperationException("no room for one more damage");
        }
        int number = damageCount;
        damagedVehicle[number] = one.number;
        damageGrade[number] = grade;
        damageCount++;
        return number;
    }

    public void proof(int damage, int proof)
            throws IllegalArgumentException, IndexOutOfBoundsException, IllegalStateException {
        if (damage < 0 || damage >= damageCount || damage >= MOST_DAMAGES) {
            throw new IllegalArgumentException("no such damage");
        }
        checkRange(proof, 1, HIGHEST_PROOF);
        if (damageProof[damage] != 0) {
            throw new IllegalStateException("the damage has a proof");
        }
        damageProof[damage] = proof;
    }

    public void need(int kind, int thing, int n) throws IllegalArgumentException, IndexOutOfBoundsException {
        Kind itsKind = knownKind(kind);
        checkThing(thing);
        checkRange(n, 0, MOST_NEEDED);
        itsKind.needed[thing] = n;
    }

    public int put(int vehicle, int thing, int n)
            throws IllegalArgumentException, IndexOutOfBoundsException, UnsupportedOperationException {
        Vehicle one = knownVehicle(vehicle);
        checkThing(thing);
        checkRange(n, 1, MOST_PUT);
        checkRoom(one.things[thing], n, MOST_OF_A_THING);
        one.things[thing] += n;
        return one.things[thing];
    }

    public int swap(int vehicle, int other, int thing) throws IllegalArgumentException, IllegalStateException {
        Vehicle first = knownVehicle(vehicle);
        Vehicle second = knownVehicle(other);
        if (vehicle == other) {
            throw new IllegalArgumentException("the two vehicles are one");
        }
        checkThing(thing);
        int had = first.things[thing];
        if (had == second.things[thing]) {
            throw new IllegalStateException("both have as many");
        }
        first.things[thing] = second.things[thing];
        second.things[thing] = had;
        return first.things[thing];
    }

    public int spare(int vehicle) throws IllegalArgumentException {
        Vehicle found = bestSpare(knownVehicle(vehicle));
        if (found == null) {
            return NONE;
        }
        int thing = found.lowestLacking();
        return thing == NONE ? found.number : LACKS - thing;
    }

    public int fuel(int vehicle, int millilitres)
            throws IllegalArgumentException, IndexOutOfBoundsException, UnsupportedOperationException {
        Vehicle one = knownVehicle(vehicle);
        checkRange(millilitres, 1, MOST_FILLED);
        checkRoom(one.filled, millilitres, MOST_IN_ALL);
        one.filled += millilitres;
        return one.filled;
    }

    public long using(int vehicle, int what) throws IllegalArgumentException, IllegalStateException {
        Vehicle one = knownVehicle(vehicle);
        if (what != 0 && what != 1) {
            throw new IllegalArgumentException("no such what");
        }
        if (one.kilometres == 0) {
            throw new IllegalStateException("the vehicle has no kilometres");
        }
        long upper = 100L * one.filled;
        long lower = one.kilometres;
        long divisor = commonDivisor(upper, lower);
        return (what == 0 ? upper : lower) / divisor;
    }

    public int key(int vehicle, int person) throws IllegalArgumentException, IllegalStateException {
        Vehicle one = knownVehicle(vehicle);
        if (person != NOBODY) {
            checkPerson(person);
        }
        int had = one.keyHolder;
        if (had == person) {
            throw new IllegalStateException("that one has the key");
        }
        one.keyHolder = person;
        return had;
    }

    public int cost(int vehicle, int cents)
            throws IllegalArgumentException, IndexOutOfBoundsException, UnsupportedOperationException {
        Vehicle one = knownVehicle(vehicle);
        checkRange(cents, 0, MOST_CENTS);
        checkRoom(one.costs, cents, MOST_IN_ALL);
        one.costs += cents;
        return one.costs;
    }

    public int skipped(int i) throws IndexOutOfBoundsException {
        checkPlace(i);
        int before = i;
        for (int v = 0; v < MOST_VEHICLES && vehicles[v] != null; v++) {
            for (int item = 0; item < ITEMS && !vehicles[v].isOff; item++) {
                if (vehicles[v].hasSkipped(item, hour)) {
                    if (before == 0) {
                        return VEHICLE_PLACE * v + item;
                    }
                    before--;
                }
            }
        }
        return NONE;
    }

    public int tick(int hours) throws IndexOutOfBoundsException {
        checkRange(hours, 1, MOST_TICKED);
        checkRange(hour + hours, 0, LAST_HOUR);
        hour += hours;
        int running = 0;
        for (int v = 0; v < MOST_VEHICLES && vehicles[v] != null; v++) {
            if (canRun(vehicles[v])) {
                running++;
            }
        }
        return running;
    }

    public int vehicleAt(int vehicle, int what) throws IllegalArgumentException {
        Vehicle one = knownVehicle(vehicle);
        switch (what) {
            case 0:
                return one.kilometres;
            case 1:
                return oneOrZero(!one.isOff);
            case 2:
                return one.lowerTold;
            case 3:
                return one.uses;
            case 4:
                return openDamages(one);
            case 5:
                return one.keyHolder;
            default:
                throw new IllegalArgumentException("no such what");
        }
    }

    private Kind knownKind(int kind) {
        if (kind < 0 || kind >= KINDS || kinds[kind] == null) {
            throw new IllegalArgumentException("no such kind");
        }
        return kinds[kind];
    }

    private Vehicle knownVehicle(int vehicle) {
        if (vehicle < 0 || vehicle >= MOST_VEHICLES || vehicles[vehicle] == null) {
            throw new IllegalArgumentException("no such vehicle");
        }
        return vehicles[vehicle];
    }

    private static void checkItem(int item) {
        if (item < 0 || item >= ITEMS) {
            throw new IllegalArgumentException("no such item");
        }
    }

    private static void checkThing(int thing) {
        if (thing < 0 || thing >= THINGS) {
            throw new IllegalArgumentException("no such thing");
        }
    }

    private static void checkPerson(int person) {
        if (person < 0 || person >= PERSONS) {
            throw new IllegalArgumentException("no such person");
        }
    }

    private static void checkRange(int number, int least, int most) {
        if (number < least || number > most) {
            throw new IndexOutOfBoundsException("outside of its range");
        }
    }

    private static void checkPlace(int i) {
        if (i < 0) {
            throw new IndexOutOfBoundsException("the place is below 0");
        }
    }

    private static void checkListed(Kind kind, int item) {
        if (!kind.listed[item]) {
            throw new IllegalStateException("the item is not on the list");
        }
    }

    private static void checkRoom(int sum, int more, int most) {
        if (more > most - sum) {
            throw new UnsupportedOperationException("no room for so much more");
        }
    }

    private static int oneOrZero(boolean yes) {
        return yes ? 1 : 0;
    }

    /** The greatest common divisor of a (0 or more) and b (1 or more): 1 or more. */
    private static long commonDivisor(long a, long b) {
        long divisor = a;
        long rest = b;
        for (int step = 0; step < MOST_DIVISIONS && rest != 0; step++) {
            long next = divisor % rest;
            divisor = rest;
            rest = next;
        }
        return Math.max(1, divisor);
    }

    /**
     * One reason of grade 3 weighs as much as two of grade 2, and grade 1 nothing: so one
     * sum tells both halves of the rule.
     */
    private boolean canRun(Vehicle one) {
        return !one.isOff && one.checksWeight(hour) + damagesWeight(one) < 2;
    }

    private boolean isOpenDamage(int damage, Vehicle one) {
        return damagedVehicle[damage] == one.number && damageProof[damage] == 0;
    }

    private int damagesWeight(Vehicle one) {
        int weight = 0;
        for (int d = 0; d < MOST_DAMAGES && d < damageCount; d++) {
            if (isOpenDamage(d, one)) {
                weight += damageGrade[d] - LOWEST_GRADE;
            }
        }
        return weight;
    }

    private int openDamages(Vehicle one) {
        int open = 0;
        for (int d = 0; d < MOST_DAMAGES && d < damageCount; d++) {
            if (isOpenDamage(d, one)) {
                open++;
            }
        }
        return open;
    }

    private int damageReason(Vehicle one, int i) {
        int before = i;
        for (int d = 0; d < MOST_DAMAGES && d < damageCount; d++) {
            if (isOpenDamage(d, one)) {
                if (before == 0) {
                    return GRADE_PLACE * damageGrade[d] + DAMAGE_PLACE + d;
                }
                before--;
            }
        }
        return NONE;
    }

    private Vehicle bestSpare(Vehicle one) {
        Vehicle best = null;
        for (int v = 0; v < MOST_VEHICLES && vehicles[v] != null; v++) {
            Vehicle other = vehicles[v];
            if (isSpareFor(other, one) && (best == null || other.kilometres < best.kilometres)) {
                best = other;
            }
        }
        return best;
    }

    private boolean isSpareFor(Vehicle other, Vehicle one) {
        return other.number != one.number && other.kind == one.kind && other.isSpare && canRun(other);
    }

    /** A kind of vehicles: its list of items and what it needs of each thing. */
    private static final class Kind {
        final boolean[] listed = new boolean[ITEMS];
        final int[] low = new int[ITEMS];
        final int[] high = new int[ITEMS];
        final int[] grade = new int[ITEMS];
        final int[] every = new int[ITEMS];
        final int[] needed = new int[THINGS];

        void enter(int item, int itsLow, int itsHigh, int itsGrade, int itsEvery) {
            listed[item] = true;
            low[item] = itsLow;
            high[item] = itsHigh;
            grade[item] = itsGrade;
            every[item] = itsEvery;
        }

        boolean isWithin(int item, int value) {
            return value >= low[item] && value <= high[item];
        }
    }

    /** A vehicle, with the latest answer to each item; an item that goes off the list keeps its answer. */
    private static final class Vehicle {
        final int number;
        final Kind kind;
        final boolean isSpare;
        final int toldHour;
        final int[] things = new int[THINGS];
        final int[] answerValue = new int[ITEMS];
        final int[] answerHour = new int[ITEMS];
        final int[] answerPerson = new int[ITEMS];
        final int[] usesBeforeAnswer = new int[ITEMS];
        boolean isOff;
        int kilometres;
        int lowerTold;
        int uses;
        int filled;
        int costs;
        int keyHolder;

        Vehicle(int itsNumber, Kind itsKind, boolean spareOne, int hourNow) {
            number = itsNumber;
            kind = itsKind;
            isSpare = spareOne;
            toldHour = hourNow;
            keyHolder = NOBODY;
            for (int item = 0; item < ITEMS; item++) {
                answerHour[item] = NEVER;
                answerPerson[item] = NOBODY;
            }
        }

        void keepAnswer(int item, int value, int hourNow, int person) {
            answerValue[item] = value;
            answerHour[item] = hourNow;
            answerPerson[item] = person;
            usesBeforeAnswer[item] = uses;
        }

        boolean keepUse(int kilometresNow) {
            uses++;
            if (kilometresNow < kilometres) {
                lowerTold++;
                return false;
            }
            kilometres = kilometresNow;
            return true;
        }

        boolean hasFailed(int item) {
            return kind.listed[item] && answerHour[item] != NEVER && !kind.isWithin(item, answerValue[item]);
        }

        boolean hasSkipped(int item, int hourNow) {
            if (!kind.listed[item]) {
                return false;
            }
            if (kind.every[item] == 0) {
                return uses != usesBeforeAnswer[item];
            }
            int since = answerHour[item] == NEVER ? toldHour : answerHour[item];
            return hourNow - since >= kind.every[item];
        }

        int checksWeight(int hourNow) {
            int weight = 0;
            for (int item = 0; item < ITEMS; item++) {
                int itsWeight = kind.grade[item] - LOWEST_GRADE;
                if (hasFailed(item)) {
                    weight += itsWeight;
                }
                if (hasSkipped(item, hourNow)) {
                    weight += itsWeight;
                }
            }
            return weight;
        }

        int lowestLacking() {
            for (int thing = 0; thing < THINGS; thing++) {
                if (things[thing] < kind.needed[thing]) {
                    return thing;
                }
            }
            return NONE;
        }
    }
}
