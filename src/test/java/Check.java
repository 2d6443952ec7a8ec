import java.util.function.Consumer;
import java.util.function.Supplier;

/** What the tests share: answers are compared, calls that must throw are tried, a test is ended. */
final class Check {
    private static final int[] QUIET_REGISTERS = {2, 3, 5, 6, 7, 9, 11, 12, 13, 14, 15};
    private static int wrong = 0;

    private Check() {
    }

    static void due(String call, long got, long want) {
        if (got != want) {
            wrong++;
            System.out.println(call + " answered " + got + ", due is " + want);
        }
    }

    static void due(String call, boolean got, boolean want) {
        due(call, got ? 1 : 0, want ? 1 : 0);
    }

    static void due(String call, String got, String want) {
        if (!got.equals(want)) {
            wrong++;
            System.out.println(call + " answered " + got + ", due is " + want);
        }
    }

    /**
     * The call must throw exactly IllegalArgumentException, and change nothing. It has an object
     * of its own, for nothing is promised behind an object's 512th call.
     */
    static void refused(String name, Supplier<PortTimers> maker, Consumer<PortTimers> call) {
        PortTimers x = maker.get();
        String before = state(x);
        String thrown = "nothing";
        try {
            call.accept(x);
        } catch (RuntimeException e) {
            thrown = e.getClass().getName();
        }
        due(name + " throws", thrown, "java.lang.IllegalArgumentException");
        due("the state behind " + name, state(x), before);
    }

    /** All that can be seen of an object without changing it. */
    static String state(PortTimers x) {
        StringBuilder seen = new StringBuilder();
        for (int register : QUIET_REGISTERS) {
            seen.append(" r").append(register).append('=').append(x.read(register));
        }
        for (int what = 0; what <= 6; what++) {
            seen.append(" t").append(what).append('=').append(x.told(what));
        }
        for (int what = 0; what <= 4; what++) {
            seen.append(" o").append(what).append('=').append(x.out(what));
        }
        return seen.toString();
    }

    /** Brings a falling edge of a line, which is 0 again behind it. */
    static boolean fall(PortTimers x, int which) {
        x.line(which, true);
        return x.line(which, false);
    }

    static void end() {
        System.out.println(wrong == 0 ? "all answers are as due" : wrong + " answers are not as due");
        if (wrong != 0) {
            System.exit(1);
        }
    }
}
