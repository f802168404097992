import java.util.Arrays;

/** Counts the answers of one test that are not as due. */
final class Check {
    private int looked = 0;
    private int wrong = 0;

    void due(String what, int got, int want) {
        looked++;
        if (got != want) {
            tell(what + " answered " + got + ", due is " + want);
        }
    }

    void due(String what, int[] got, int... want) {
        looked++;
        if (!Arrays.equals(got, want)) {
            tell(what + " answered " + Arrays.toString(got) + ", due is " + Arrays.toString(want));
        }
    }

    void silent(String what, int[] got) {
        looked++;
        if (got != null) {
            tell(what + " answered " + Arrays.toString(got) + ", due is no answer");
        }
    }

    void refused(String what, Class<? extends RuntimeException> how, Runnable call) {
        looked++;
        try {
            call.run();
        } catch (RuntimeException e) {
            if (e.getClass() != how) {
                tell(what + " threw " + e + ", due is " + how.getSimpleName());
            }
            return;
        }
        tell(what + " threw nothing, due is " + how.getSimpleName());
    }

    void badArgument(String what, Runnable call) {
        refused(what, IllegalArgumentException.class, call);
    }

    void badIndex(String what, Runnable call) {
        refused(what, IndexOutOfBoundsException.class, call);
    }

    void tell(String text) {
        wrong++;
        System.out.println("  wrong: " + text);
    }

    void end() {
        System.out.println("  " + looked + " answers looked at, " + wrong + " wrong");
        if (wrong != 0 || looked == 0) {
            System.exit(1);
        }
    }
}
