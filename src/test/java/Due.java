import java.util.function.BooleanSupplier;
import java.util.function.IntConsumer;
import java.util.function.LongSupplier;

/** What the tests share: each compares a call with what is due and tells the line of the test that is wrong. */
abstract class Due {
    static final Class<? extends RuntimeException> UNKNOWN = IllegalArgumentException.class;
    static final Class<? extends RuntimeException> RANGE = IndexOutOfBoundsException.class;
    static final Class<? extends RuntimeException> STATE = IllegalStateException.class;
    static final Class<? extends RuntimeException> ROOM = UnsupportedOperationException.class;

    private static int checks = 0;
    private static int wrong = 0;

    static void is(long want, LongSupplier call) {
        String got;
        try {
            got = String.valueOf(call.getAsLong());
        } catch (RuntimeException e) {
            got = e.toString();
        }
        compare(String.valueOf(want), got);
    }

    static void is(boolean want, BooleanSupplier call) {
        String got;
        try {
            got = String.valueOf(call.getAsBoolean());
        } catch (RuntimeException e) {
            got = e.toString();
        }
        compare(String.valueOf(want), got);
    }

    static void does(Runnable call) {
        compare("nothing", outcome(call));
    }

    /** The very class is due: the machine's ArrayIndexOutOfBoundsException is none of the document's. */
    static void refuses(Class<? extends RuntimeException> want, Runnable call) {
        compare(want.getName(), outcome(call));
    }

    /** Each of the wrong numbers, and the two that lie farthest out, where a sum or a product would wrap around. */
    static void refusesEach(Class<? extends RuntimeException> want, IntConsumer call, int... wrongOnes) {
        for (int one : wrongOnes) {
            refuses(want, () -> call.accept(one));
        }
        refuses(want, () -> call.accept(Integer.MIN_VALUE));
        refuses(want, () -> call.accept(Integer.MAX_VALUE));
    }

    static void doesEach(IntConsumer call, int... rightOnes) {
        for (int one : rightOnes) {
            does(() -> call.accept(one));
        }
    }

    static void compare(String want, String got) {
        checks++;
        if (!want.equals(got)) {
            wrong++;
            System.out.println(place() + ": answered " + got + ", due is " + want);
        }
    }

    static int checksSoFar() {
        return checks;
    }

    static int wrongSoFar() {
        return wrong;
    }

    static void end() {
        System.out.println(checks + " checks, " + wrong + " wrong");
        if (wrong != 0 || checks == 0) {
            System.exit(1);
        }
    }

    static VehicleChecks withVehicles(int kind, boolean... spares) {
        VehicleChecks x = new VehicleChecks();
        for (boolean spare : spares) {
            x.vehicle(kind, spare);
        }
        return x;
    }

    private static String outcome(Runnable call) {
        try {
            call.run();
            return "nothing";
        } catch (RuntimeException e) {
            return e.getClass().getName();
        }
    }

    private static String place() {
        for (StackTraceElement e : new Throwable().getStackTrace()) {
            if (!e.getClassName().equals(Due.class.getName())) {
                return e.getFileName() + ":" + e.getLineNumber();
            }
        }
        return "?";
    }
}
