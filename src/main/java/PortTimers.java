/**
 * The chip beside a processor that has two ports of eight pins with lines for handshakes, two
 * timers, a register that shifts, and flags that tell what has come.
 *
 * <p>Within a step no part changes what another part looks at, and flags are only raised; so each
 * part goes on by all cycles at once, instead of all parts by one cycle after another.
 */
public final class PortTimers {
    private static final int LARGEST_BYTE = 255;
    private static final int LARGEST_WORD = 65535;
    private static final int MOST_CYCLES = 200000;

    private static final int FLAG_CA2 = 1;
    private static final int FLAG_CA1 = 2;
    private static final int FLAG_SHIFTER = 4;
    private static final int FLAG_CB2 = 8;
    private static final int FLAG_CB1 = 16;
    private static final int FLAG_TIMER_2 = 32;
    private static final int FLAG_TIMER_1 = 64;
    private static final int ALL_FLAGS = 127;
    private static final int TOP_BIT = 128;

    private static final int CONTROL_HOLD_A = 1;
    private static final int CONTROL_HOLD_B = 2;
    private static final int CONTROL_COUNT_PULSES = 32;
    private static final int CONTROL_FREE_RUN = 64;
    private static final int CONTROL_TIMERS_BIT = 128;

    private static final int PULSE_PIN = 64;

    private static final int MODE_IN = 2;
    private static final int MODE_OUT = 6;
    private static final int SHIFTS = 8;

    private static final int WAY_FALLING_KEPT = 1;
    private static final int WAY_RISING = 2;
    private static final int WAY_RISING_KEPT = 3;
    private static final int WAY_UNTIL_EDGE = 4;
    private static final int WAY_UNTIL_CYCLE = 5;
    private static final int WAY_ALWAYS_0 = 6;
    private static final int NO_OUTPUT = 2;

    private final Flags flags = new Flags();
    private final Side sideA = new Side(flags, FLAG_CA1, FLAG_CA2);
    private final Side sideB = new Side(flags, FLAG_CB1, FLAG_CB2);
    private final Timer1 timer1 = new Timer1(flags);
    private final Timer2 timer2 = new Timer2(flags);
    private final Shifter shifter = new Shifter(flags);
    private int control;
    private int cycles;

    public PortTimers() {
    }

    public void write(int register, int v) throws IllegalArgumentException {
        if (!isByte(v)) {
            throw new IllegalArgumentException("v is not 0 to 255");
        }
        switch (register) {
            case 0:
                sideB.out = v;
                sideB.touch();
                sideB.giveTouch();
                break;
            case 1:
                sideA.out = v;
                sideA.touch();
                sideA.giveTouch();
                break;
            case 2: sideB.directions = v; break;
            case 3: sideA.directions = v; break;
            case 4: timer1.latchLow(v); break;
            case 5:
                timer1.latchHigh(v);
                timer1.start();
                break;
            case 6: timer1.latchLow(v); break;
            case 7: timer1.latchHigh(v); break;
            case 8: timer2.latch = v; break;
            case 9: timer2.start(v); break;
            case 10:
                shifter.bits = v;
                shifter.begin();
                break;
            case 11: control = v; break;
            case 12:
                sideA.ways = v & 15;
                sideB.ways = v >> 4;
                break;
            case 13: flags.lower(v); break;
            case 14: flags.enable(v); break;
            case 15: sideA.out = v; break;
            default:
                throw new IllegalArgumentException("register is not 0 to 15");
        }
    }

    public int read(int register) throws IllegalArgumentException {
        switch (register) {
            case 0: return readPortB();
            case 1: return readPortA();
            case 2: return sideB.directions;
            case 3: return sideA.directions;
            case 4:
                flags.lower(FLAG_TIMER_1);
                return lowByte(timer1.count);
            case 5: return highByte(timer1.count);
            case 6: return lowByte(timer1.latch);
            case 7: return highByte(timer1.latch);
            case 8:
                flags.lower(FLAG_TIMER_2);
                return lowByte(timer2.count);
            case 9: return highByte(timer2.count);
            case 10:
                shifter.begin();
                return shifter.bits;
            case 11: return control;
            case 12: return sideB.ways << 4 | sideA.ways;
            case 13: return flags.withCall();
            case 14: return flags.enabled | TOP_BIT;
            case 15: return portA();
            default:
                throw new IllegalArgumentException("register is not 0 to 15");
        }
    }

    public void pins(int a, int b) throws IllegalArgumentException {
        if (!isByte(a) || !isByte(b)) {
            throw new IllegalArgumentException("pins are not 0 to 255");
        }
        boolean falls = (sideB.pins & ~b & PULSE_PIN) != 0;
        sideA.pins = a;
        sideB.pins = b;
        if (falls && controlHas(CONTROL_COUNT_PULSES)) {
            timer2.countDown(1);
        }
    }

    public boolean line(int which, boolean level) throws IllegalArgumentException {
        switch (which) {
            case 0: return sideA.moveLine1(level);
            case 1: return sideA.moveLine2(level);
            case 2: return sideB.moveLine1(level);
            case 3: return sideB.moveLine2(level);
            default:
                throw new IllegalArgumentException("there is no such line");
        }
    }

    public int step(int n) throws IllegalArgumentException {
        if (n < 0 || n > MOST_CYCLES) {
            throw new IllegalArgumentException("n is not 0 to 200000");
        }
        if (n > 0) {
            goOn(n);
        }
        return flags.withCall();
    }

    public int out(int what) throws IllegalArgumentException {
        switch (what) {
            case 0: return sideA.out & sideA.directions;
            case 1: return withTimersBit(sideB.out) & sideB.directions;
            case 2: return sideA.line2Gives();
            case 3: return lineCB2Gives();
            case 4: return flags.call() ? 1 : 0;
            default:
                throw new IllegalArgumentException("what is not 0 to 4");
        }
    }

    public int told(int what) throws IllegalArgumentException {
        switch (what) {
            case 0: return timer1.count;
            case 1: return timer2.count;
            case 2: return timer1.latch;
            case 3: return shifter.toCome;
            case 4: return timer1.bit;
            case 5: return (timer1.armed ? 1 : 0) + (timer2.armed ? 2 : 0);
            case 6: return cycles;
            default:
                throw new IllegalArgumentException("what is not 0 to 6");
        }
    }

    public void reset() {
        flags.clear();
        sideA.clear();
        sideB.clear();
        timer1.clear();
        timer2.clear();
        shifter.clear();
        control = 0;
        cycles = 0;
    }

    private void goOn(int n) {
        timer1.goOn(n, controlHas(CONTROL_FREE_RUN));
        if (!controlHas(CONTROL_COUNT_PULSES)) {
            timer2.countDown(n);
        }
        shifter.goOn(n, mode(), sideB.line2);
        sideA.endCycle();
        sideB.endCycle();
        cycles += n;
    }

    private int readPortA() {
        // The touch lowers the flag that says which pins count, so the port is taken first.
        int value = portA();
        sideA.touch();
        sideA.giveTouch();
        return value;
    }

    private int readPortB() {
        int value = withTimersBit(sideB.port(controlHas(CONTROL_HOLD_B)));
        sideB.touch();
        return value;
    }

    private int portA() {
        return sideA.port(controlHas(CONTROL_HOLD_A));
    }

    private int withTimersBit(int value) {
        return controlHas(CONTROL_TIMERS_BIT) ? value & ~TOP_BIT | timer1.bit << 7 : value;
    }

    private int lineCB2Gives() {
        boolean shifterGives = sideB.wayOfLine2() < WAY_UNTIL_EDGE && mode() == MODE_OUT;
        return shifterGives ? shifter.given : sideB.line2Gives();
    }

    private int mode() {
        return control >> 2 & 7;
    }

    private boolean controlHas(int bit) {
        return (control & bit) != 0;
    }

    private static boolean isByte(int v) {
        return v >= 0 && v <= LARGEST_BYTE;
    }

    private static int lowByte(int word) {
        return word & LARGEST_BYTE;
    }

    private static int highByte(int word) {
        return word >> 8;
    }

    /** What has come, and what of it calls the processor; a flag is told by its bit. */
    private static final class Flags {
        private int raised;
        private int enabled;

        void clear() {
            raised = 0;
            enabled = 0;
        }

        void raise(int bit) {
            raised |= bit;
        }

        void lower(int bits) {
            raised &= ~bits;
        }

        boolean has(int bit) {
            return (raised & bit) != 0;
        }

        void enable(int v) {
            if ((v & TOP_BIT) != 0) {
                enabled |= v & ALL_FLAGS;
            } else {
                enabled &= ~v;
            }
        }

        boolean call() {
            return (raised & enabled) != 0;
        }

        int withCall() {
            return call() ? raised | TOP_BIT : raised;
        }
    }

    /** A port with its lines: line 1 is CA1 or CB1, line 2 is CA2 or CB2. */
    private static final class Side {
        private final Flags flags;
        private final int flagOfLine1;
        private final int flagOfLine2;

        private int pins;
        private boolean line1;
        private boolean line2;

        private int out;
        private int directions;
        private int ways;
        private int heldPins;
        // Each way keeps what it gave, for the ways may change and come back in between.
        private boolean lowUntilEdge;
        private boolean lowUntilCycle;

        Side(Flags flags, int flagOfLine1, int flagOfLine2) {
            this.flags = flags;
            this.flagOfLine1 = flagOfLine1;
            this.flagOfLine2 = flagOfLine2;
        }

        /** Leaves pins and lines alone, for they are the world's. */
        void clear() {
            out = 0;
            directions = 0;
            ways = 0;
            heldPins = 0;
            lowUntilEdge = false;
            lowUntilCycle = false;
        }

        int wayOfLine2() {
            return ways >> 1;
        }

        int port(boolean holds) {
            int inputs = holds && flags.has(flagOfLine1) ? heldPins : pins;
            return out & directions | inputs & ~directions;
        }

        void touch() {
            flags.lower(flagOfLine1);
            int way = wayOfLine2();
            if (way != WAY_FALLING_KEPT && way != WAY_RISING_KEPT) {
                flags.lower(flagOfLine2);
            }
        }

        /** Apart from the touch, because a read of port B gives nothing on its line. */
        void giveTouch() {
            int way = wayOfLine2();
            if (way == WAY_UNTIL_EDGE) {
                lowUntilEdge = true;
            } else if (way == WAY_UNTIL_CYCLE) {
                lowUntilCycle = true;
            }
        }

        void endCycle() {
            lowUntilCycle = false;
        }

        boolean moveLine1(boolean level) {
            boolean activeLevel = (ways & 1) != 0;
            boolean active = level != line1 && level == activeLevel;
            line1 = level;
            if (active) {
                flags.raise(flagOfLine1);
                heldPins = pins;
                lowUntilEdge = false;
            }
            return active;
        }

        boolean moveLine2(boolean level) {
            int way = wayOfLine2();
            boolean activeLevel = way >= WAY_RISING;
            boolean active = way < WAY_UNTIL_EDGE && level != line2 && level == activeLevel;
            line2 = level;
            if (active) {
                flags.raise(flagOfLine2);
            }
            return active;
        }

        int line2Gives() {
            int way = wayOfLine2();
            if (way < WAY_UNTIL_EDGE) {
                return NO_OUTPUT;
            }
            boolean low = way == WAY_UNTIL_EDGE && lowUntilEdge
                    || way == WAY_UNTIL_CYCLE && lowUntilCycle
                    || way == WAY_ALWAYS_0;
            return low ? 0 : 1;
        }
    }

    /** The timer that can begin again from its latch, and turns the timer's bit. */
    private static final class Timer1 {
        private final Flags flags;
        private int count;
        private int latch;
        private int bit = 1;
        private boolean armed;
        private boolean latchIsDue;

        Timer1(Flags flags) {
            this.flags = flags;
        }

        void clear() {
            count = 0;
            latch = 0;
            bit = 1;
            armed = false;
            latchIsDue = false;
        }

        void latchLow(int v) {
            latch = latch & ~LARGEST_BYTE | v;
        }

        void latchHigh(int v) {
            latch = v << 8 | latch & LARGEST_BYTE;
            flags.lower(FLAG_TIMER_1);
        }

        void start() {
            count = latch;
            armed = true;
            bit = 0;
            latchIsDue = false;
        }

        /** Goes on by n cycles, at least one. */
        void goOn(int n, boolean freeRun) {
            if (freeRun) {
                runFreely(n);
            } else {
                runOnce(n);
            }
        }

        private void runOnce(int n) {
            latchIsDue = false;
            if (n > count && armed) {
                flags.raise(FLAG_TIMER_1);
                bit = 1;
                armed = false;
            }
            count = count - n & LARGEST_WORD;
        }

        private void runFreely(int n) {
            int left = n;
            if (latchIsDue) {
                count = latch;
                latchIsDue = false;
                left--;
            }
            if (left > count) {
                runOut(left - count - 1);
            } else {
                count -= left;
            }
        }

        /** Runs out, and goes on by so many cycles behind that. */
        private void runOut(int left) {
            // From one time to the next: to the latch, down to 0, and one more; so never below 2.
            int round = latch + 2;
            int times = 1 + left / round;
            int behindLast = left % round;
            flags.raise(FLAG_TIMER_1);
            bit ^= times & 1;
            latchIsDue = behindLast == 0;
            count = latchIsDue ? LARGEST_WORD : latch + 1 - behindLast;
        }
    }

    /** The timer that counts cycles, or pulses on a pin. */
    private static final class Timer2 {
        private final Flags flags;
        private int count;
        private int latch;
        private boolean armed;

        Timer2(Flags flags) {
            this.flags = flags;
        }

        void clear() {
            count = 0;
            latch = 0;
            armed = false;
        }

        void start(int high) {
            count = high << 8 | latch;
            armed = true;
            flags.lower(FLAG_TIMER_2);
        }

        void countDown(int n) {
            if (n > count && armed) {
                flags.raise(FLAG_TIMER_2);
                armed = false;
            }
            count = count - n & LARGEST_WORD;
        }
    }

    /** The register that shifts. */
    private static final class Shifter {
        private final Flags flags;
        private int bits;
        private int toCome;
        private int given = 1;
        private boolean halfway;

        Shifter(Flags flags) {
            this.flags = flags;
        }

        void clear() {
            bits = 0;
            toCome = 0;
            given = 1;
            halfway = false;
        }

        void begin() {
            flags.lower(FLAG_SHIFTER);
            toCome = SHIFTS;
            halfway = false;
        }

        void goOn(int n, int mode, boolean lineIn) {
            if (mode != MODE_IN && mode != MODE_OUT) {
                return;
            }
            for (int i = 0; i < n && toCome > 0; i++) {
                if (halfway) {
                    shift(mode, lineIn);
                }
                halfway = !halfway;
            }
        }

        private void shift(int mode, boolean lineIn) {
            int above = bits >> 7;
            int below = lineIn ? 1 : 0;
            if (mode == MODE_OUT) {
                given = above;
                below = above;
            }
            bits = bits << 1 & LARGEST_BYTE | below;
            toCome--;
            if (toCome == 0) {
                flags.raise(FLAG_SHIFTER);
            }
        }
    }
}
