import java.util.concurrent.Callable;

/** What the tests share: answers that are due, exceptions that are due, and the end of a test. */
final class Check {
    private static int wrong = 0;
    private static int looked = 0;

    private Check() {
    }

    static void due(String call, Object got, Object want) {
        looked++;
        if (!want.equals(got)) {
            fail(call + " answered " + got + ", due is " + want);
        }
    }

    static void due(String call, long got, long want) {
        looked++;
        if (got != want) {
            fail(call + " answered " + got + ", due is " + want);
        }
    }

    /** The exception has to be of just this class: what the machine throws may be a class below it. */
    static void dueThrow(String call, Class<?> want, Callable<?> work) {
        looked++;
        Class<?> got = thrown(work);
        if (got != want) {
            fail(call + " threw " + got + ", due is " + want);
        }
    }

    static Class<?> thrown(Callable<?> work) {
        try {
            work.call();
            return null;
        } catch (Throwable e) {
            return e.getClass();
        }
    }

    static void fail(String what) {
        wrong++;
        if (wrong <= 50) {
            System.out.println(what);
        }
    }

    static void end() {
        if (looked == 0) {
            fail("nothing was looked at");
        }
        System.out.println(looked + " answers looked at, " + wrong + " wrong");
        if (wrong != 0) {
            System.exit(1);
        }
    }
}
