import java.lang.reflect.InvocationTargetException;
import java.lang.reflect.Method;
import java.lang.reflect.Modifier;
import java.util.Arrays;
import java.util.Comparator;
import java.util.List;

/**
 * What the tests of single sentences share. Each such test is a static method whose name begins with the number and
 * the name of its promise, as promise08JoinRefuses...(). A run of calls is told as a function, so that it can be
 * made again on a new object: with a call at its end that must change nothing, and without it.
 */
abstract class Sentences {
    static final long MOST = 100000000000000L;
    static final int NONE = -1, BAD = -2, REFUSED = -3;
    static final int PRODUCT = 0, SUM = 1, SELL = 0, BUY = 1;

    static final int[] NO_PLAYERS = {-1, 6, Integer.MIN_VALUE, Integer.MAX_VALUE};
    static final int[] NO_TOKENS = {-1, 4, Integer.MIN_VALUE, Integer.MAX_VALUE};
    /** Where there are POOLS 0 and 1. */
    static final int[] NO_POOLS_OF_2 = {-1, 2, 5, 6, Integer.MIN_VALUE, Integer.MAX_VALUE};
    static final int[] NO_SIDES = {-1, 2, Integer.MIN_VALUE, Integer.MAX_VALUE};
    static final long[] BELOW_ONE = {0, -1, -4294967295L, Long.MIN_VALUE};
    static final long[] BELOW_ZERO = {-1, -4294967295L, Long.MIN_VALUE};

    private static final Checks CHECKS = new Checks();
    private static String test = "";

    interface Run {
        void on(ExactCurves x);
    }

    interface Call {
        long on(ExactCurves x);
    }

    interface CallWithInt {
        long on(ExactCurves x, int argument);
    }

    interface CallWithLong {
        long on(ExactCurves x, long argument);
    }

    static final Run NOTHING = x -> { };

    /** Something of everything: two POOLS, MARKS, ORDERS that wait and some that were dealt, VAULTS, two LOANS. */
    static final Run BUSY = x -> {
        for (int token = 0; token < 4; token++) {
            x.mint(0, token, 100000);
            x.mint(1, token, 50000);
            x.mint(5, token, 700);
        }
        x.pool(0, 1, PRODUCT, 30);
        x.pool(2, 1, SUM, 100);
        x.join(0, 0, 10000, 20000);
        x.join(1, 1, 500, 400);
        x.mark(1, 0);
        x.order(0, SELL, 10, 333);
        x.order(1, BUY, 7, 333);
        x.clear();
        x.tick(7);
        x.mark(6, 1);
        x.swap(0, 0, 0, 500);
        x.swap(1, 1, 1, 50);
        x.lend(0, 1, 5000);
        x.lend(5, 2, 600);
        x.rate(1, 1000);
        x.rate(3, 77);
        x.loan(1, 0, 0, 1000, 1000);
        x.loan(5, 1, 1, 300, 100);
        x.tick(30);
        x.batch(2, 3);
        x.order(0, SELL, 20, 900);
        x.order(1, BUY, 30, 1100);
        x.order(5, BUY, 3, 800);
    };

    static ExactCurves after(Run run) {
        ExactCurves x = new ExactCurves();
        run.on(x);
        return x;
    }

    static Run both(Run first, Run next) {
        return x -> {
            first.on(x);
            next.on(x);
        };
    }

    /** PLAYERS 0 and 1 have an amount of every TOKEN. */
    static Run rich(long amount) {
        return x -> {
            for (int token = 0; token < 4; token++) {
                x.mint(0, token, amount);
                x.mint(1, token, amount);
            }
        };
    }

    /** PLAYERS 0 and 1 have had all there can be of every TOKEN; 0 has joined POOL 0, of TOKENS 0 and 1. */
    static Run pooled(int kind, int fee, long u, long v) {
        return both(rich(MOST / 2), x -> {
            x.pool(0, 1, kind, fee);
            x.join(0, 0, u, v);
        });
    }

    static void due(long got, long want) {
        CHECKS.due(place(), got, want);
    }

    /** On a new object, after the run, the call answers what is due. */
    static void answers(Run run, Call call, long want) {
        CHECKS.due(place(), call.on(after(run)), want);
    }

    /** As answers(), and everything afterwards is as if the call had not been made. */
    static void answersAndChangesNothing(Run run, Call call, long want) {
        String place = place();
        ExactCurves with = after(run);
        CHECKS.due(place, call.on(with), want);
        String change = firstChange(Told.by(after(run)), Told.by(with));
        CHECKS.holds(place + " changes nothing, but " + change, change.isEmpty());
    }

    static void bad(Run run, Call call) {
        answersAndChangesNothing(run, call, BAD);
    }

    static void refused(Run run, Call call) {
        answersAndChangesNothing(run, call, REFUSED);
    }

    static void badWith(int[] wrong, Run run, CallWithInt call) {
        for (int argument : wrong) {
            bad(run, x -> call.on(x, argument));
        }
    }

    static void badWith(long[] wrong, Run run, CallWithLong call) {
        for (long argument : wrong) {
            bad(run, x -> call.on(x, argument));
        }
    }

    static void refusedWith(long[] wrong, Run run, CallWithLong call) {
        for (long argument : wrong) {
            refused(run, x -> call.on(x, argument));
        }
    }

    static void reserves(ExactCurves x, int pool, long one, long two, long shares) {
        due(x.of(pool, 0), one);
        due(x.of(pool, 1), two);
        due(x.of(pool, 2), shares);
    }

    static void balances(ExactCurves x, int player, long one, long two) {
        due(x.balance(player, 0), one);
        due(x.balance(player, 1), two);
    }

    /** Runs every test of a class; there must be one for each promise from first to last, and for no other. */
    static void runAll(Class<?> tests, int first, int last) {
        boolean[] isTested = new boolean[last + 1];
        Method[] methods = tests.getDeclaredMethods();
        Arrays.sort(methods, Comparator.comparing(Method::getName));
        for (Method method : methods) {
            if (method.getName().startsWith("promise") && Modifier.isStatic(method.getModifiers())) {
                int promise = Integer.parseInt(method.getName().substring(7, 9));
                CHECKS.holds(method.getName() + " is of these promises", first <= promise && promise <= last);
                isTested[Math.min(promise, last)] = true;
                runOne(method);
            }
        }
        for (int promise = first; promise <= last; promise++) {
            CHECKS.holds("promise " + promise + " has a test", isTested[promise]);
        }
        CHECKS.end();
    }

    private static void runOne(Method method) {
        test = method.getName();
        try {
            method.invoke(null);
        } catch (InvocationTargetException | IllegalAccessException failure) {
            Throwable cause = failure.getCause() == null ? failure : failure.getCause();
            CHECKS.holds(test + " throws nothing, but " + cause, false);
        }
    }

    /** The test and the line in it that asks. */
    private static String place() {
        return StackWalker.getInstance().walk(frames -> frames
            .filter(frame -> frame.getClassName().endsWith("Test"))
            .findFirst()
            .map(frame -> test + " (" + frame.getFileName() + ":" + frame.getLineNumber() + ")")
            .orElse(test));
    }

    private static String firstChange(List<String> before, List<String> after) {
        for (int i = 0; i < Math.min(before.size(), after.size()); i++) {
            if (!before.get(i).equals(after.get(i))) {
                return after.get(i) + ", not as before: " + before.get(i);
            }
        }
        return before.size() == after.size() ? "" : "more or less is told";
    }
}
