import java.util.Arrays;

/** Counts what was checked, and prints each answer that is not the one that is due. */
final class Checks {
    interface Call {
        Object answer();
    }

    private int passed;
    private int failed;

    void due(String call, Object want, Object got) {
        if (want.equals(got)) {
            passed++;
            return;
        }
        failed++;
        System.out.println(call + " answered " + got + ", due is " + want);
    }

    /** The call must throw just this exception, by a throw of Ringdays itself, and change nothing. */
    void refused(String call, Class<? extends RuntimeException> want, Ringdays x, Call made) {
        long before = x.digest();
        try {
            due(call, want.getName(), made.answer());
        } catch (RuntimeException e) {
            due(call + " throws", want, e.getClass());
            due(call + " throws itself", "Ringdays", e.getStackTrace()[0].getClassName());
        }
        due("digest() behind " + call, before, x.digest());
    }

    /**
     * The same of an object with something behind it, and that nothing which it keeps has changed either: a twin,
     * to which the call is not made, must tell the same of itself.
     */
    void refusedEverywhere(String told, Class<? extends RuntimeException> want, Refusals.Call made, int number) {
        for (int which = 0; which < Samples.COUNT; which++) {
            Ringdays x = Samples.made(which);
            refused(told + ", sample " + which, want, x, () -> made.answer(x, number));
            due("all behind " + told + ", sample " + which, Samples.all(Samples.made(which)), Samples.all(x));
        }
    }

    void noCell(String call, Ringdays x, Call made) {
        refused(call, IndexOutOfBoundsException.class, x, made);
    }

    void noNumber(String call, Ringdays x, Call made) {
        refused(call, IllegalArgumentException.class, x, made);
    }

    /** All of the tests; one that ends in an exception fails, and the others are run all the same. */
    void run(Runnable... tests) {
        for (int place = 0; place < tests.length; place++) {
            try {
                tests[place].run();
            } catch (RuntimeException e) {
                due("test " + (place + 1), "no exception", e + " at " + Arrays.toString(e.getStackTrace()));
            }
        }
    }

    /** The closing line, and the exit code 1 if a check failed. */
    void end() {
        System.out.println(passed + " passed, " + failed + " failed");
        if (failed != 0) {
            System.exit(1);
        }
    }
}
