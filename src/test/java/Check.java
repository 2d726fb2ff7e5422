import java.lang.reflect.InvocationTargetException;
import java.lang.reflect.Method;
import java.lang.reflect.Modifier;
import java.util.Arrays;
import java.util.Comparator;

/** What the tests share: comparing answers, and running a test class. */
final class Check {
    interface Call {
        void run();
    }

    interface Maker {
        DollCitadel made();
    }

    interface Use {
        void on(DollCitadel citadel);
    }

    private static int wrong = 0;
    private static String running = "";

    private Check() {
    }

    static void due(String call, long got, long want) {
        if (got != want) {
            wrong(call + " answered " + got + ", due is " + want);
        }
    }

    static void dueDouble(String call, double got, double want) {
        // compare() tells 0.0 from -0.0 and finds NaN.
        if (Double.compare(got, want) != 0) {
            wrong(call + " answered " + got + ", due is " + want);
        }
    }

    static void dueTrue(String what, boolean holds) {
        if (!holds) {
            wrong(what);
        }
    }

    /** The call must throw just this class (none below it, as the machine throws) and change nothing. */
    static void dueThrow(DollCitadel citadel, Class<? extends RuntimeException> want, String call, Call made) {
        long before = citadel.digest();
        dueThrown(want, call, made);
        if (citadel.digest() != before) {
            wrong(call + " threw and changed something");
        }
    }

    private static void dueThrown(Class<? extends RuntimeException> want, String call, Call made) {
        Class<?> got = null;
        try {
            made.run();
        } catch (RuntimeException e) {
            got = e.getClass();
        }
        if (got != want) {
            wrong(call + " threw " + (got == null ? "nothing" : got.getName()) + ", due is " + want.getName());
        }
    }

    /** As dueThrow, but all that the citadel tells must be as with a twin that was not called so, a day later too. */
    static void dueRefused(Class<? extends RuntimeException> want, String call, Maker maker, Use refused) {
        DollCitadel x = maker.made();
        DollCitadel twin = maker.made();
        dueThrown(want, call, () -> refused.on(x));
        dueAlike(call + ", which was refused,", x, twin);
    }

    /** The call answers, and changes nothing. */
    static void dueUnchanged(String call, Maker maker, Use asked) {
        DollCitadel x = maker.made();
        DollCitadel twin = maker.made();
        asked.on(x);
        dueAlike(call, x, twin);
    }

    private static void dueAlike(String call, DollCitadel x, DollCitadel twin) {
        if (!Arrays.equals(Told.of(x), Told.of(twin))) {
            wrong(call + " changed something");
        }
        due("pass(1) behind " + call, x.pass(1), twin.pass(1));
        due("digest() a day behind " + call, x.digest(), twin.digest());
    }

    static void wrong(String text) {
        wrong++;
        System.out.println(running + ": " + text);
    }

    /** Runs every static method without parameters whose name starts with "promise" or "terms". */
    static void runAll(Class<?> tests) {
        Method[] methods = tests.getDeclaredMethods();
        Arrays.sort(methods, Comparator.comparing(Method::getName));
        int ran = 0;
        for (Method each : methods) {
            if (isTest(each)) {
                runOne(each);
                ran++;
            }
        }
        System.out.println(ran + " tests, " + wrong + " wrong answers");
        if (wrong != 0 || ran == 0) {
            System.exit(1);
        }
    }

    private static boolean isTest(Method method) {
        String name = method.getName();
        return (name.startsWith("promise") || name.startsWith("terms")) && method.getParameterCount() == 0
                && Modifier.isStatic(method.getModifiers());
    }

    private static void runOne(Method test) {
        running = test.getName();
        try {
            test.setAccessible(true);
            test.invoke(null);
        } catch (InvocationTargetException e) {
            wrong("threw " + e.getCause());
        } catch (IllegalAccessException e) {
            wrong("cannot be run: " + e);
        }
    }

    static void dueJoint(DollCitadel citadel, int doll, int joint, int angle, int wear, int lacquer) {
        String call = "joint(" + doll + ", " + joint + ", ";
        due(call + "0)", citadel.joint(doll, joint, 0), angle);
        due(call + "1)", citadel.joint(doll, joint, 1), wear);
        due(call + "2)", citadel.joint(doll, joint, 2), lacquer);
        due(call + "3)", citadel.joint(doll, joint, 3), wear == 100 ? 1 : 0);
    }

    static void dueDoll(DollCitadel citadel, int doll, int... want) {
        for (int what = 0; what < want.length; what++) {
            due("doll(" + doll + ", " + what + ")", citadel.doll(doll, what), want[what]);
        }
    }

    static void dueCounts(DollCitadel citadel, int... want) {
        for (int what = 0; what < want.length; what++) {
            due("count(" + what + ")", citadel.count(what), want[what]);
        }
    }
}
