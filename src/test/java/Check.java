/** Counts answers that are as due, tells the others, and ends a test program. */
final class Check {
    private static int passed = 0;
    private static int failed = 0;

    private Check() {
    }

    static void due(String call, Object got, Object want) {
        if (got.equals(want)) {
            passed++;
            return;
        }
        failed++;
        System.out.println(call + " answered " + got + ", due is " + want);
    }

    static void due(String call, long got, long want) {
        due(call, Long.valueOf(got), Long.valueOf(want));
    }

    static void dueThrow(DroopBoard x, String call, Class<?> want, Runnable run) {
        long before = x.digest();
        due(call + " throws", thrownBy(run), want.getSimpleName());
        due("digest() behind " + call, x.digest(), before);
    }

    static void dueNoIndex(DroopBoard x, String call, Runnable run) {
        dueThrow(x, call, IndexOutOfBoundsException.class, run);
    }

    static void dueNoArgument(DroopBoard x, String call, Runnable run) {
        dueThrow(x, call, IllegalArgumentException.class, run);
    }

    static void dueNoState(DroopBoard x, String call, Runnable run) {
        dueThrow(x, call, IllegalStateException.class, run);
    }

    private static String thrownBy(Runnable run) {
        try {
            run.run();
            return "nothing";
        } catch (RuntimeException e) {
            return e.getClass().getSimpleName();
        }
    }

    /** A call that is marked undoable saves one state, and undo() brings back what was. */
    static void dueUndoable(DroopBoard x, String call, Runnable run) {
        int saved = x.count(11);
        long before = DigestOf.ofState(x);
        run.run();
        due("count(11) behind " + call, x.count(11), Math.min(saved + 1, 6));
        due("undo() behind " + call, x.undo(), Math.min(saved, 5));
        due("the state behind undo() of " + call, DigestOf.ofState(x), before);
    }

    static void type(DroopBoard x, String text) {
        x.clearBuffer();
        for (int i = 0; i < text.length(); i++) {
            x.append(text.charAt(i));
        }
    }

    /** The sets run, and their breakers close; the slip has to allow it. */
    static void closeAll(DroopBoard x, int... sets) {
        for (int set : sets) {
            x.run(set);
            x.close(set);
        }
    }

    static void end(String program) {
        System.out.println(program + ": " + passed + " passed, " + failed + " failed");
        if (failed > 0) {
            System.exit(1);
        }
    }
}
