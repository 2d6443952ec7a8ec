import java.util.function.Consumer;
import java.util.function.Supplier;

/** What the tests share: answers are compared, calls that must throw are tried, a test is ended. */
final class Check {
    private static final int[] QUIET_REGISTERS = {2, 3, 5, 6, 7, 9, 11, 12, 13, 14, 15};
    private static int wrong = 0;

    private Check() {
    }

    static void due(String call, long got, long want) {
        if (got != want) {
            wrong++;
            System.out.println(call + " answered " + got + ", due is " + want);
        }
    }

    static void due(String call, boolean got, boolean want) {
        due(call, got ? 1 : 0, want ? 1 : 0);
    }

    static void due(String call, String got, String want) {
        if (!got.equals(want)) {
            wrong++;
            System.out.println(call + " answered " + got + ", due is " + want);
        }
    }

    /** The call must throw exactly IllegalArgumentException, and change nothing, in any state. */
    static void refused(String name, Consumer<PortTimers> call) {
        for (Supplier<PortTimers> maker : States.ALL) {
            PortTimers x = maker.get();
            due(name + " throws", thrownBy(x, call), "java.lang.IllegalArgumentException");
            due("all behind " + name, whole(x), whole(maker.get()));
        }
    }

    /** The call must not throw, in any state. */
    static void taken(String name, Consumer<PortTimers> call) {
        for (Supplier<PortTimers> maker : States.ALL) {
            due(name + " throws", thrownBy(maker.get(), call), "nothing");
        }
    }

    static String thrownBy(PortTimers x, Consumer<PortTimers> call) {
        try {
            call.accept(x);
        } catch (RuntimeException e) {
            return e.getClass().getName();
        }
        return "nothing";
    }

    /** All that can be seen of an object without changing it. */
    static String state(PortTimers x) {
        StringBuilder seen = new StringBuilder();
        for (int register : QUIET_REGISTERS) {
            seen.append(" r").append(register).append('=').append(x.read(register));
        }
        for (int what = 0; what <= 6; what++) {
            seen.append(" t").append(what).append('=').append(x.told(what));
        }
        for (int what = 0; what <= 4; what++) {
            seen.append(" o").append(what).append('=').append(x.out(what));
        }
        return seen.toString();
    }

    /** All that an object holds, also what shows only later; the object is used up by it. */
    static String whole(PortTimers x) {
        StringBuilder seen = new StringBuilder(state(x));
        seeWhatLinesGive(seen, x);
        for (int i = 0; i < 3; i++) {
            seen.append("; step ").append(x.step(1)).append(state(x));
        }
        int[] registers = {4, 8, 10, 0, 1, 13};
        for (int register : registers) {
            seen.append(" r").append(register).append('=').append(x.read(register));
        }
        seeWhatTheWorldGives(seen, x);
        x.write(9, 0);
        x.write(2, 255);
        x.write(3, 255);
        seen.append("; latch of timer 2, outs").append(state(x));
        return seen.toString();
    }

    private static void seeWhatLinesGive(StringBuilder seen, PortTimers x) {
        int control = x.read(11);
        int ways = x.read(12);
        x.write(11, 24 + 3);
        seen.append("; port A, held ").append(x.read(15)).append("; given");
        int[] probes = {0, 0x88, 0xAA};
        for (int probe : probes) {
            x.write(12, probe);
            seen.append(' ').append(x.out(2)).append(x.out(3));
        }
        x.write(11, control);
        x.write(12, ways);
    }

    private static void seeWhatTheWorldGives(StringBuilder seen, PortTimers x) {
        x.write(12, 0);
        seen.append("; lines");
        for (int which = 0; which < 4; which++) {
            seen.append(' ').append(x.line(which, false));
        }
        x.write(11, 32);
        x.pins(0, 0);
        seen.append("; timer 2 behind a fall ").append(x.told(1));
    }

    /** Brings a falling edge of a line, which is 0 again behind it. */
    static boolean fall(PortTimers x, int which) {
        x.line(which, true);
        return x.line(which, false);
    }

    static void end() {
        System.out.println(wrong == 0 ? "all answers are as due" : wrong + " answers are not as due");
        if (wrong != 0) {
            System.exit(1);
        }
    }
}
