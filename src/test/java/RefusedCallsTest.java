/**
 * "Methods throw what their comments name; a call that throws changes nothing": each argument
 * just inside of its bounds is taken, and each outside of them refused.
 */
public final class RefusedCallsTest {
    // Far ones too, which would be inside if only their low bits were looked at.
    private static final int[] NO_REGISTER =
            {-1, 16, 17, 31, 32, 256, 65536, -16, Integer.MIN_VALUE, Integer.MAX_VALUE};
    private static final int[] NO_BYTE =
            {-1, 256, 257, 511, 512, 65536, -128, -256, Integer.MIN_VALUE, Integer.MAX_VALUE};

    public static void main(String[] args) {
        writeRefusesRegisters();
        writeRefusesValues();
        writeTakesItsBounds();
        readRefusesRegisters();
        pinsRefusesA();
        pinsRefusesB();
        pinsTakesItsBounds();
        lineRefusesOthers();
        stepRefusesTooFewAndTooMany();
        stepTakesItsBounds();
        outRefusesOthers();
        toldRefusesOthers();
        refusedCallsLeaveARunAlone();
        Check.end();
    }

    private static void refusedWrite(int register, int v) {
        Check.refused("write(" + register + ", " + v + ")", x -> x.write(register, v));
    }

    /** "register is not 0 to 15" */
    private static void writeRefusesRegisters() {
        for (int register : NO_REGISTER) {
            refusedWrite(register, 0);
            refusedWrite(register, 255);
        }
    }

    /** "or v not 0 to 255" */
    private static void writeRefusesValues() {
        for (int v : NO_BYTE) {
            for (int register = 0; register < 16; register++) {
                refusedWrite(register, v);
            }
            refusedWrite(-1, v);
            refusedWrite(16, v);
        }
    }

    private static void writeTakesItsBounds() {
        for (int register = 0; register < 16; register++) {
            int r = register;
            Check.taken("write(" + r + ", 0)", x -> x.write(r, 0));
            Check.taken("write(" + r + ", 255)", x -> x.write(r, 255));
        }
    }

    /** "register is not 0 to 15" */
    private static void readRefusesRegisters() {
        for (int register : NO_REGISTER) {
            Check.refused("read(" + register + ")", x -> x.read(register));
        }
        for (int register = 0; register < 16; register++) {
            int r = register;
            Check.taken("read(" + r + ")", x -> x.read(r));
        }
    }

    private static void refusedPins(int a, int b) {
        Check.refused("pins(" + a + ", " + b + ")", x -> x.pins(a, b));
    }

    /** "one is not 0 to 255" */
    private static void pinsRefusesA() {
        for (int a : NO_BYTE) {
            refusedPins(a, 0);
            refusedPins(a, 255);
            refusedPins(a, a);
        }
    }

    private static void pinsRefusesB() {
        for (int b : NO_BYTE) {
            refusedPins(0, b);
            refusedPins(255, b);
        }
    }

    private static void pinsTakesItsBounds() {
        Check.taken("pins(0, 0)", x -> x.pins(0, 0));
        Check.taken("pins(255, 0)", x -> x.pins(255, 0));
        Check.taken("pins(0, 255)", x -> x.pins(0, 255));
        Check.taken("pins(255, 255)", x -> x.pins(255, 255));
    }

    /** "there is no such line" */
    private static void lineRefusesOthers() {
        int[] none = {-1, 4, 5, 8, 256, -4, Integer.MIN_VALUE, Integer.MAX_VALUE};
        for (int which : none) {
            Check.refused("line(" + which + ", true)", x -> x.line(which, true));
            Check.refused("line(" + which + ", false)", x -> x.line(which, false));
        }
        for (int which = 0; which < 4; which++) {
            int w = which;
            Check.taken("line(" + w + ", true)", x -> x.line(w, true));
            Check.taken("line(" + w + ", false)", x -> x.line(w, false));
        }
    }

    /** "n is not 0 to 200000" */
    private static void stepRefusesTooFewAndTooMany() {
        int[] wrong = {-1, -2, -200000, 200001, 200002, 262144, 65536 * 65535, Integer.MIN_VALUE,
            Integer.MAX_VALUE};
        for (int n : wrong) {
            Check.refused("step(" + n + ")", x -> x.step(n));
        }
    }

    private static void stepTakesItsBounds() {
        Check.taken("step(0)", x -> x.step(0));
        Check.taken("step(1)", x -> x.step(1));
        Check.taken("step(199999)", x -> x.step(199999));
        Check.taken("step(200000)", x -> x.step(200000));
    }

    /** "another what" than 0 to 4 */
    private static void outRefusesOthers() {
        int[] none = {-1, 5, 6, 7, 8, 256, -5, Integer.MIN_VALUE, Integer.MAX_VALUE};
        for (int what : none) {
            Check.refused("out(" + what + ")", x -> x.out(what));
        }
        for (int what = 0; what <= 4; what++) {
            int w = what;
            Check.taken("out(" + w + ")", x -> x.out(w));
        }
    }

    /** "another what" than 0 to 6 */
    private static void toldRefusesOthers() {
        int[] none = {-1, 7, 8, 16, 256, -7, Integer.MIN_VALUE, Integer.MAX_VALUE};
        for (int what : none) {
            Check.refused("told(" + what + ")", x -> x.told(what));
        }
        for (int what = 0; what <= 6; what++) {
            int w = what;
            Check.taken("told(" + w + ")", x -> x.told(w));
        }
    }

    /** All kinds of refused calls, one behind the other, between calls that count. */
    private static void refusedCallsLeaveARunAlone() {
        PortTimers x = States.countingPulses();
        for (int i = 0; i < 20; i++) {
            Check.thrownBy(x, y -> y.write(16, 0));
            Check.thrownBy(x, y -> y.write(9, 256));
            Check.thrownBy(x, y -> y.read(-1));
            Check.thrownBy(x, y -> y.pins(256, 0));
            Check.thrownBy(x, y -> y.pins(0, -1));
            Check.thrownBy(x, y -> y.line(4, false));
            Check.thrownBy(x, y -> y.step(200001));
            Check.thrownBy(x, y -> y.out(5));
            Check.thrownBy(x, y -> y.told(7));
        }
        Check.due("all behind them", Check.whole(x), Check.whole(States.countingPulses()));
    }
}
