import java.lang.reflect.InvocationTargetException;
import java.lang.reflect.Method;
import java.lang.reflect.Modifier;
import java.util.Map;
import java.util.TreeMap;
import java.util.function.Consumer;

/** Counts answers that are as due, tells the others, and ends a test program. */
final class Check {
    private static String test = "";
    private static int passed = 0;
    private static int failed = 0;

    private Check() {
    }

    /** Runs each test of a class: its static methods without parameters, by their names. */
    static void runAll(Class<?> tests) throws IllegalAccessException {
        Map<String, Method> methods = new TreeMap<>();
        for (Method method : tests.getDeclaredMethods()) {
            if (!Modifier.isPrivate(method.getModifiers()) && method.getParameterCount() == 0) {
                methods.put(method.getName(), method);
            }
        }
        for (Method method : methods.values()) {
            test = method.getName() + ": ";
            int before = passed + failed;
            try {
                method.invoke(null);
            } catch (InvocationTargetException e) {
                due("it", "threw " + e.getCause(), "an answer to each call");
            }
            if (passed + failed == before) {
                due("it", "nothing", "something is tested");
            }
        }
        end(tests.getSimpleName() + ", " + methods.size() + " tests");
    }

    static void due(String call, Object got, Object want) {
        if (got.equals(want)) {
            passed++;
            return;
        }
        failed++;
        System.out.println(test + call + " answered " + got + ", due is " + want);
    }

    static void due(String call, long got, long want) {
        due(call, Long.valueOf(got), Long.valueOf(want));
    }

    static void dueThrow(DroopBoard x, String call, Class<?> want, Runnable run) {
        long before = x.digest();
        due(call + " throws", thrownBy(run), want.getSimpleName());
        due("digest() behind " + call, x.digest(), before);
    }

    static void dueNoIndex(DroopBoard x, String call, Runnable run) {
        dueThrow(x, call, IndexOutOfBoundsException.class, run);
    }

    static void dueNoArgument(DroopBoard x, String call, Runnable run) {
        dueThrow(x, call, IllegalArgumentException.class, run);
    }

    static void dueNoState(DroopBoard x, String call, Runnable run) {
        dueThrow(x, call, IllegalStateException.class, run);
    }

    private static String thrownBy(Runnable run) {
        try {
            run.run();
            return "nothing";
        } catch (RuntimeException e) {
            return e.getClass().getSimpleName();
        }
    }

    /** A call that throws changes nothing: what it was tried on stays the twin of what it was not. */
    static void dueRefused(Class<?> want, Consumer<DroopBoard> before, String call,
            Consumer<DroopBoard> refused) {
        DroopBoard x = new DroopBoard();
        DroopBoard twin = new DroopBoard();
        before.accept(x);
        before.accept(twin);
        due(call + " throws", thrownBy(() -> refused.accept(x)), want.getSimpleName());
        dueTwins(call, x, twin);
    }

    /** Two objects are the same in all: the state, the buffer, each saved state, the snapshot. */
    static void dueTwins(String call, DroopBoard x, DroopBoard twin) {
        due("digest() behind " + call, x.digest(), twin.digest());
        int saved = twin.count(11);
        for (int left = saved - 1; left >= 0; left--) {
            due("undo() behind " + call, thrownBy(x::undo), thrownBy(twin::undo));
            due("digest() with " + left + " saved states behind " + call, x.digest(), twin.digest());
        }
        due("goBack() behind " + call, thrownBy(x::goBack), thrownBy(twin::goBack));
        due("digest() of the snapshot behind " + call, x.digest(), twin.digest());
    }

    /** A call that is marked undoable saves one state, and undo() brings back what was. */
    static void dueUndoable(DroopBoard x, String call, Runnable run) {
        int saved = x.count(11);
        long before = DigestOf.ofState(x);
        run.run();
        due("count(11) behind " + call, x.count(11), Math.min(saved + 1, 6));
        due("undo() behind " + call, x.undo(), Math.min(saved, 5));
        due("the state behind undo() of " + call, DigestOf.ofState(x), before);
    }

    static void type(DroopBoard x, String text) {
        x.clearBuffer();
        for (int i = 0; i < text.length(); i++) {
            x.append(text.charAt(i));
        }
    }

    /** The sets run, and their breakers close; the slip has to allow it. */
    static void closeAll(DroopBoard x, int... sets) {
        for (int set : sets) {
            x.run(set);
            x.close(set);
        }
    }

    /** Brings a set with the phase 0 to another phase; the frequency is 5000, as its speed is then. */
    static void reachPhase(DroopBoard x, int set, int phase) {
        if (phase >= 200) {
            x.speed(set, 5200);
            x.pass(phase / 200);
        }
        if (phase % 200 > 0) {
            x.speed(set, 5000 + phase % 200);
            x.pass(1);
        }
        x.speed(set, 5000);
        due("the phase", x.diesel(set, 6), phase);
    }

    static void end(String program) {
        System.out.println(program + ": " + passed + " passed, " + failed + " failed");
        if (failed > 0) {
            System.exit(1);
        }
    }
}
