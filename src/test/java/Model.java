import java.math.BigInteger;
import java.util.ArrayList;
import java.util.Comparator;
import java.util.List;
import java.util.Optional;

/**
 * The document told a second time, as plainly as can be and in another way than the class: it keeps a
 * log of what was told and reads everything from it. A call answers a number or the exception's name.
 */
final class Model {
    /** One thing that was told, in the order of telling. */
    private record Told(String what, int hour, int[] a) { }

    private final List<Told> log = new ArrayList<>();
    private int hour = 0;

    Object call(String name, int[] a) {
        String refusal = refusal(name, a);
        if (refusal != null) {
            return refusal;
        }
        switch (name) {
            case "vehicle": tell(name, a); return (long) vehicles().size() - 1;
            case "list": case "unlist": case "off": case "proof": case "need": tell(name, a); return 0L;
            case "answer": tell(name, a); return within(a[0], a[1], a[2]) ? 1L : 0L;
            case "item": return item(a[0], a[1], a[2]);
            case "use": {
                long before = kilometres(a[0]);
                tell(name, a);
                return a[1] >= before ? 1L : 0L;
            }
            case "runs": return runs(a[0]) ? 1L : 0L;
            case "reason": return at(reasons(a[0]), a[1]);
            case "damage": tell(name, a); return (long) damages().size() - 1;
            case "put": tell(name, a); return has(a[0], a[1]);
            case "swap": tell(name, a); return has(a[0], a[2]);
            case "spare": return spare(a[0]);
            case "fuel": case "cost": tell(name, a); return sum(name, a[0]);
            case "using": return using(a[0], a[1]);
            case "key": {
                long had = holder(a[0]);
                tell(name, a);
                return had;
            }
            case "skipped": return at(skippedOfAll(), a[0]);
            case "tick": hour += a[0]; return count(v -> runs(v));
            case "vehicleAt": return vehicleAt(a[0], a[1]);
            default: throw new AssertionError(name);
        }
    }

    // ---- refusals, in the document's order

    private String refusal(String name, int[] a) {
        if (unknown(name, a)) {
            return "IllegalArgumentException";
        }
        if (outside(name, a)) {
            return "IndexOutOfBoundsException";
        }
        if (notInState(name, a)) {
            return "IllegalStateException";
        }
        return noRoom(name, a) ? "UnsupportedOperationException" : null;
    }

    private boolean unknown(String name, int[] a) {
        switch (name) {
            case "vehicle": return !in(a[0], 0, 4);
            case "list": case "unlist": case "need": return !in(a[0], 0, 4) || !in(a[1], 0, 9);
            case "answer": return noVehicle(a[0]) || !in(a[1], 0, 9) || !in(a[3], 0, 39);
            case "item": return noVehicle(a[0]) || !in(a[1], 0, 9) || !in(a[2], 0, 5);
            case "off": return noVehicle(a[0]) || !in(a[2], 0, 39) || !in(a[3], 0, 39);
            case "proof": return !in(a[0], 0, damages().size() - 1);
            case "put": return noVehicle(a[0]) || !in(a[1], 0, 9);
            case "swap": return noVehicle(a[0]) || noVehicle(a[1]) || a[0] == a[1] || !in(a[2], 0, 9);
            case "using": return noVehicle(a[0]) || !in(a[1], 0, 1);
            case "key": return noVehicle(a[0]) || !in(a[1], -1, 39);
            case "vehicleAt": return noVehicle(a[0]) || !in(a[1], 0, 5);
            case "skipped": case "tick": return false;
            default: return noVehicle(a[0]);
        }
    }

    private boolean outside(String name, int[] a) {
        switch (name) {
            case "list":
                return !in(a[2], -9999, 9999) || !in(a[3], -9999, 9999) || a[2] > a[3]
                    || !in(a[4], 1, 3) || !in(a[5], 0, 5000);
            case "answer": return !in(a[2], -99999, 99999);
            case "use": return !in(a[1], 0, 1000000);
            case "reason": return a[1] < 0;
            case "damage": return !in(a[1], 1, 3);
            case "proof": return !in(a[1], 1, 9999);
            case "need": return !in(a[2], 0, 9);
            case "put": return !in(a[2], 1, 9);
            case "fuel": return !in(a[1], 1, 1000000);
            case "cost": return !in(a[1], 0, 10000000);
            case "skipped": return a[0] < 0;
            case "tick": return !in(a[0], 1, 5000) || hour + a[0] > 99999;
            default: return false;
        }
    }

    private boolean notInState(String name, int[] a) {
        switch (name) {
            case "unlist": return entry(a[0], a[1]) == null;
            case "answer": return entry(kind(a[0]), a[1]) == null;
            case "use": return !runs(a[0]);
            case "off": return on(a[0]) == (a[1] == 0) || a[2] == a[3];
            case "proof": return !open(a[0]);
            case "swap": return has(a[0], a[2]) == has(a[1], a[2]);
            case "using": return kilometres(a[0]) == 0;
            case "key": return holder(a[0]) == a[1];
            default: return false;
        }
    }

    private boolean noRoom(String name, int[] a) {
        switch (name) {
            case "vehicle": return vehicles().size() == 20;
            case "damage": return damages().size() == 100;
            case "put": return has(a[0], a[1]) + a[2] > 99;
            case "fuel": case "cost": return sum(name, a[0]) + a[1] > 1000000000L;
            default: return false;
        }
    }

    // ---- what the log says

    private interface OfVehicle {
        boolean is(int vehicle);
    }

    private void tell(String what, int[] a) {
        log.add(new Told(what, hour, a.clone()));
    }

    private static boolean in(int n, int least, int most) {
        return least <= n && n <= most;
    }

    private static long at(List<Long> all, int i) {
        return i < all.size() ? all.get(i) : -1L;
    }

    private List<Told> all(String what) {
        return log.stream().filter(t -> t.what.equals(what)).toList();
    }

    private List<Told> all(String what, int first) {
        return all(what).stream().filter(t -> t.a[0] == first).toList();
    }

    private List<Told> vehicles() {
        return all("vehicle");
    }

    private List<Told> damages() {
        return all("damage");
    }

    private boolean noVehicle(int v) {
        return !in(v, 0, vehicles().size() - 1);
    }

    private int kind(int v) {
        return vehicles().get(v).a[0];
    }

    private long count(OfVehicle test) {
        long n = 0;
        for (int v = 0; v < vehicles().size(); v++) {
            n += test.is(v) ? 1 : 0;
        }
        return n;
    }

    /** What the list says of an item, or null. */
    private int[] entry(int kind, int item) {
        int[] found = null;
        for (Told t : log) {
            boolean it = (t.what.equals("list") || t.what.equals("unlist")) && t.a[0] == kind && t.a[1] == item;
            found = !it ? found : t.what.equals("list") ? t.a : null;
        }
        return found;
    }

    private int latest(int v, int item) {
        for (int i = log.size() - 1; i >= 0; i--) {
            Told t = log.get(i);
            if (t.what.equals("answer") && t.a[0] == v && t.a[1] == item) {
                return i;
            }
        }
        return -1;
    }

    private boolean within(int v, int item, int value) {
        int[] e = entry(kind(v), item);
        return e[2] <= value && value <= e[3];
    }

    private boolean fails(int v, int item) {
        int answer = latest(v, item);
        return entry(kind(v), item) != null && answer >= 0 && !within(v, item, log.get(answer).a[2]);
    }

    private boolean isSkipped(int v, int item) {
        int[] e = entry(kind(v), item);
        if (e == null) {
            return false;
        }
        int answer = latest(v, item);
        if (e[5] > 0) {
            return hour - (answer >= 0 ? log.get(answer) : vehicles().get(v)).hour >= e[5];
        }
        return log.subList(answer + 1, log.size()).stream().anyMatch(t -> t.what.equals("use") && t.a[0] == v);
    }

    private boolean open(int damage) {
        return all("proof", damage).isEmpty();
    }

    private List<Long> reasons(int v) {
        List<Long> found = new ArrayList<>();
        for (int item = 0; item < 10; item++) {
            if (fails(v, item)) {
                found.add(entry(kind(v), item)[4] * 10000L + item);
            }
        }
        for (int item = 0; item < 10; item++) {
            if (isSkipped(v, item)) {
                found.add(entry(kind(v), item)[4] * 10000L + 100 + item);
            }
        }
        List<Told> damages = damages();
        for (int d = 0; d < damages.size(); d++) {
            if (damages.get(d).a[0] == v && open(d)) {
                found.add(damages.get(d).a[1] * 10000L + 1000 + d);
            }
        }
        return found;
    }

    private boolean on(int v) {
        List<Told> told = all("off", v);
        return told.isEmpty() || told.get(told.size() - 1).a[1] == 0;
    }

    private boolean runs(int v) {
        List<Long> reasons = reasons(v);
        return on(v) && reasons.stream().noneMatch(r -> r / 10000 == 3)
            && reasons.stream().filter(r -> r / 10000 == 2).count() < 2;
    }

    private long item(int v, int item, int what) {
        int answer = latest(v, item);
        switch (what) {
            case 0: return entry(kind(v), item) != null ? 1 : 0;
            case 1: return answer < 0 ? 0 : log.get(answer).a[2];
            case 2: return answer < 0 ? -1 : log.get(answer).hour;
            case 3: return answer < 0 ? -1 : log.get(answer).a[3];
            case 4: return fails(v, item) ? 1 : 0;
            default: return isSkipped(v, item) ? 1 : 0;
        }
    }

    private long kilometres(int v) {
        return all("use", v).stream().mapToLong(t -> t.a[1]).max().orElse(0);
    }

    private long lower(int v) {
        long n = 0;
        long before = 0;
        for (Told t : all("use", v)) {
            n += t.a[1] < before ? 1 : 0;
            before = Math.max(before, t.a[1]);
        }
        return n;
    }

    private long has(int v, int thing) {
        long[] number = new long[20];
        for (Told t : log) {
            if (t.what.equals("put") && t.a[1] == thing) {
                number[t.a[0]] += t.a[2];
            }
            if (t.what.equals("swap") && t.a[2] == thing) {
                long first = number[t.a[0]];
                number[t.a[0]] = number[t.a[1]];
                number[t.a[1]] = first;
            }
        }
        return number[v];
    }

    private long needs(int kind, int thing) {
        long n = 0;
        for (Told t : all("need", kind)) {
            n = t.a[1] == thing ? t.a[2] : n;
        }
        return n;
    }

    private long spare(int v) {
        List<Integer> others = new ArrayList<>();
        for (int o = 0; o < vehicles().size(); o++) {
            if (o != v && kind(o) == kind(v) && vehicles().get(o).a[1] == 1 && runs(o)) {
                others.add(o);
            }
        }
        Optional<Integer> best = others.stream()
            .min(Comparator.comparingLong((Integer o) -> kilometres(o)).thenComparing(o -> o));
        if (best.isEmpty()) {
            return -1;
        }
        for (int thing = 0; thing < 10; thing++) {
            if (has(best.get(), thing) < needs(kind(v), thing)) {
                return -2 - thing;
            }
        }
        return best.get();
    }

    private long sum(String what, int v) {
        return all(what, v).stream().mapToLong(t -> t.a[1]).sum();
    }

    private long using(int v, int what) {
        BigInteger upper = BigInteger.valueOf(sum("fuel", v)).multiply(BigInteger.valueOf(100));
        BigInteger lower = BigInteger.valueOf(kilometres(v));
        return (what == 0 ? upper : lower).divide(upper.gcd(lower)).longValueExact();
    }

    private long holder(int v) {
        List<Told> told = all("key", v);
        return told.isEmpty() ? -1 : told.get(told.size() - 1).a[1];
    }

    private List<Long> skippedOfAll() {
        List<Long> found = new ArrayList<>();
        for (int v = 0; v < vehicles().size(); v++) {
            for (int item = 0; item < 10; item++) {
                if (on(v) && isSkipped(v, item)) {
                    found.add(10L * v + item);
                }
            }
        }
        return found;
    }

    private long vehicleAt(int v, int what) {
        switch (what) {
            case 0: return kilometres(v);
            case 1: return on(v) ? 1 : 0;
            case 2: return lower(v);
            case 3: return all("use", v).size();
            case 4: return reasons(v).stream().filter(r -> r % 10000 >= 1000).count();
            default: return holder(v);
        }
    }
}
