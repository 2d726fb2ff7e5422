import java.lang.reflect.InvocationTargetException;
import java.lang.reflect.Method;
import java.lang.reflect.Modifier;
import java.util.Arrays;
import java.util.Comparator;

/** What the tests share: comparing answers, and running a test class. */
final class Check {
    interface Call {
        void run();
    }

    private static int wrong = 0;
    private static String running = "";

    private Check() {
    }

    static void due(String call, long got, long want) {
        if (got != want) {
            wrong(call + " answered " + got + ", due is " + want);
        }
    }

    static void dueDouble(String call, double got, double want) {
        // compare() tells 0.0 from -0.0 and finds NaN.
        if (Double.compare(got, want) != 0) {
            wrong(call + " answered " + got + ", due is " + want);
        }
    }

    static void dueTrue(String what, boolean holds) {
        if (!holds) {
            wrong(what);
        }
    }

    /** The call must throw just this class (none below it, as the machine throws) and change nothing. */
    static void dueThrow(DollCitadel citadel, Class<? extends RuntimeException> want, String call, Call made) {
        long before = citadel.digest();
        Class<?> got = null;
        try {
            made.run();
        } catch (RuntimeException e) {
            got = e.getClass();
        }
        if (got != want) {
            wrong(call + " threw " + (got == null ? "nothing" : got.getName()) + ", due is " + want.getName());
        }
        if (citadel.digest() != before) {
            wrong(call + " threw and changed something");
        }
    }

    static void wrong(String text) {
        wrong++;
        System.out.println(running + ": " + text);
    }

    /** Runs every static method without parameters whose name starts with "promise". */
    static void runAll(Class<?> tests) {
        Method[] methods = tests.getDeclaredMethods();
        Arrays.sort(methods, Comparator.comparing(Method::getName));
        int ran = 0;
        for (Method each : methods) {
            if (each.getName().startsWith("promise") && each.getParameterCount() == 0
                    && Modifier.isStatic(each.getModifiers())) {
                runOne(each);
                ran++;
            }
        }
        System.out.println(ran + " tests, " + wrong + " wrong answers");
        if (wrong != 0 || ran == 0) {
            System.exit(1);
        }
    }

    private static void runOne(Method test) {
        running = test.getName();
        try {
            test.setAccessible(true);
            test.invoke(null);
        } catch (InvocationTargetException e) {
            wrong("threw " + e.getCause());
        } catch (IllegalAccessException e) {
            wrong("cannot be run: " + e);
        }
    }

    static void dueJoint(DollCitadel citadel, int doll, int joint, int angle, int wear, int lacquer) {
        String call = "joint(" + doll + ", " + joint + ", ";
        due(call + "0)", citadel.joint(doll, joint, 0), angle);
        due(call + "1)", citadel.joint(doll, joint, 1), wear);
        due(call + "2)", citadel.joint(doll, joint, 2), lacquer);
        due(call + "3)", citadel.joint(doll, joint, 3), wear == 100 ? 1 : 0);
    }

    static void dueDoll(DollCitadel citadel, int doll, int... want) {
        for (int what = 0; what < want.length; what++) {
            due("doll(" + doll + ", " + what + ")", citadel.doll(doll, what), want[what]);
        }
    }

    static void dueCounts(DollCitadel citadel, int... want) {
        for (int what = 0; what < want.length; what++) {
            due("count(" + what + ")", citadel.count(what), want[what]);
        }
    }
}
