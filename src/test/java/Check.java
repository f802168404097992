import java.lang.reflect.InvocationTargetException;
import java.lang.reflect.Method;
import java.util.Arrays;
import java.util.Comparator;

/** Runs the tests of a class, and counts the answers that are not as due. */
final class Check {
    private final Method test;
    private int looked = 0;
    private int wrong = 0;

    private Check(Method test) {
        this.test = test;
    }

    /** Runs every test of a class; ends with exit code 1 if one is wrong. */
    static void run(Class<?> tests) {
        Method[] methods = tests.getDeclaredMethods();
        Arrays.sort(methods, Comparator.comparing(Method::getName));
        int looked = 0;
        int wrong = 0;
        for (Method method : methods) {
            if (isTest(method)) {
                Check check = new Check(method);
                check.runTest();
                looked += check.looked;
                wrong += check.wrong;
            }
        }
        System.out.println("  " + looked + " answers looked at, " + wrong + " wrong");
        if (wrong != 0 || looked == 0) {
            System.exit(1);
        }
    }

    /** A test takes a Check and nothing else; a helper takes more. */
    static boolean isTest(Method method) {
        return Arrays.equals(method.getParameterTypes(), new Class<?>[] {Check.class});
    }

    private void runTest() {
        try {
            test.invoke(null, this);
        } catch (InvocationTargetException e) {
            tell("it threw " + e.getCause());
        } catch (IllegalAccessException e) {
            tell("it can't be run: " + e);
        }
        if (looked == 0) {
            tell("it looked at no answer");
        }
    }

    void due(String what, int got, int want) {
        looked++;
        if (got != want) {
            tell(what + " answered " + got + ", due is " + want);
        }
    }

    void due(String what, int[] got, int... want) {
        looked++;
        if (!Arrays.equals(got, want)) {
            tell(what + " answered " + Arrays.toString(got) + ", due is " + Arrays.toString(want));
        }
    }

    void due(String what, boolean holds) {
        looked++;
        if (!holds) {
            tell(what + " is not so");
        }
    }

    void silent(String what, int[] got) {
        looked++;
        if (got != null) {
            tell(what + " answered " + Arrays.toString(got) + ", due is no answer");
        }
    }

    void badArgument(String what, Runnable call) {
        refused(what, IllegalArgumentException.class, call);
    }

    void badIndex(String what, Runnable call) {
        refused(what, IndexOutOfBoundsException.class, call);
    }

    private void refused(String what, Class<? extends RuntimeException> how, Runnable call) {
        looked++;
        try {
            call.run();
        } catch (RuntimeException e) {
            if (e.getClass() != how) {
                tell(what + " threw " + e + ", due is " + how.getSimpleName());
            }
            return;
        }
        tell(what + " threw nothing, due is " + how.getSimpleName());
    }

    private void tell(String text) {
        if (wrong == 0) {
            Holds holds = test.getAnnotation(Holds.class);
            System.out.println("  wrong in " + test.getName()
                + (holds == null ? "" : ", which holds the class to: " + String.join(" ... ", holds.value())));
        }
        wrong++;
        System.out.println("    " + text);
    }
}
