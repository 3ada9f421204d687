import java.lang.reflect.InvocationTargetException;
import java.lang.reflect.Method;
import java.lang.reflect.Modifier;
import java.util.Map;
import java.util.TreeMap;

/** Counts answers that are not as due, and says which. */
final class Check {
    /** A call that answers a number, or throws. */
    interface Call {
        long answer();
    }

    private static int made = 0;
    private static int wrong = 0;
    private static String test = "";

    private Check() {
    }

    /** Runs every test of a class: its static methods that take nothing and answer nothing. */
    static void tests(Class<?> tests) throws IllegalAccessException {
        Map<String, Method> byName = new TreeMap<>();
        for (Method m : tests.getDeclaredMethods()) {
            if (Modifier.isStatic(m.getModifiers()) && !m.isSynthetic()
                    && m.getParameterCount() == 0 && m.getReturnType() == void.class) {
                byName.put(m.getName(), m);
            }
        }
        for (Method m : byName.values()) {
            test = m.getName() + ": ";
            run(m);
        }
        test = "";
        System.out.println(byName.size() + " tests");
        finish();
    }

    private static void run(Method m) throws IllegalAccessException {
        try {
            m.invoke(null);
        } catch (InvocationTargetException e) {
            same("the test itself", "threw " + e.getCause(), "threw nothing");
        }
    }

    static void same(String what, long got, long due) {
        same(what, String.valueOf(got), String.valueOf(due));
    }

    static void same(String what, String got, String due) {
        made++;
        if (!got.equals(due)) {
            wrong++;
            System.out.println(test + what + " answered " + got + ", due is " + due);
        }
    }

    static void sameFloat(String what, float got, float due) {
        same(what, Float.toString(got), Float.toString(due));
    }

    static void noSuch(String what, Call call) {
        same(what, outcome(call), "throws.IndexOutOfBoundsException");
    }

    static void outOfRange(String what, Call call) {
        same(what, outcome(call), "throws.IllegalArgumentException");
    }

    static void notNow(String what, Call call) {
        same(what, outcome(call), "throws.IllegalStateException");
    }

    /** The number that a call answers, or the name of what it throws, as a text. */
    static String outcome(Call call) {
        try {
            return String.valueOf(call.answer());
        } catch (RuntimeException e) {
            return "throws." + e.getClass().getSimpleName();
        }
    }

    static void finish() {
        System.out.println(made + " checks, " + wrong + " wrong");
        if (wrong != 0 || made == 0) {
            System.exit(1);
        }
    }
}
