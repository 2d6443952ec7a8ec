/** Promise 1, sentence by sentence: all that is so at first. */
public final class Edges1NewObjectTest {
    public static void main(String[] args) {
        pinsAreZero();
        linesAreZero();
        outsAreZero();
        controlAndWaysAreZero();
        noFlagIsSet();
        noFlagIsEnabled();
        timersAreZero();
        latchesAreZero();
        theShifterIsZero();
        noShiftsAreToCome();
        noneIsArmed();
        theTimersBitIsOne();
        cb2GivesOne();
        nothingWasGiven();
        noLatchIsDue();
        theLastOf512CallsCounts();
        Check.end();
    }

    /** "THE WORLD gives PINS A and B ... all 0 at first" */
    private static void pinsAreZero() {
        PortTimers x = new PortTimers();
        Check.due("port A", x.read(1), 0);
        Check.due("port B", x.read(0), 0);
        x.write(11, 32);
        x.pins(0, 0);
        Check.due("timer 2, pin 6 did not fall", x.told(1), 0);
    }

    /** "and LINES CA1, CA2, CB1, CB2, 0 or 1; all 0 at first" */
    private static void linesAreZero() {
        for (int which = 0; which < 4; which++) {
            PortTimers falls = new PortTimers();
            Check.due("line " + which + " is 0, no fall", falls.line(which, false), false);
            PortTimers rises = new PortTimers();
            rises.write(12, 0x55);
            Check.due("line " + which + " is 0, a rise", rises.line(which, true), true);
        }
    }

    /** "OUT A, OUT B, DIRECTIONS A, B ... all 0 at first" */
    private static void outsAreZero() {
        PortTimers x = new PortTimers();
        Check.due("directions B", x.read(2), 0);
        Check.due("directions A", x.read(3), 0);
        x.pins(255, 255);
        Check.due("port A, all inputs", x.read(15), 255);
        x.write(2, 255);
        x.write(3, 255);
        Check.due("OUT A", x.out(0), 0);
        Check.due("OUT B", x.out(1), 0);
        Check.due("port A, all outputs", x.read(15), 0);
    }

    /** "CONTROL (register 11), LINES' WAYS (12) ... all 0 at first" */
    private static void controlAndWaysAreZero() {
        PortTimers x = new PortTimers();
        Check.due("control", x.read(11), 0);
        Check.due("ways", x.read(12), 0);
        for (int which = 0; which < 4; which++) {
            Check.due("line " + which + " falls", Check.fall(x, which), true);
        }
        Check.due("CA2 is no output", x.out(2), 2);
        Check.due("CB2 is no output", x.out(3), 2);
    }

    /** "FLAGS 0 to 6 ... all 0 at first" */
    private static void noFlagIsSet() {
        PortTimers x = new PortTimers();
        x.write(14, 255);
        Check.due("read(13)", x.read(13), 0);
        Check.due("step(0)", x.step(0), 0);
        Check.due("out(4)", x.out(4), 0);
    }

    /** "ENABLED flags; all 0 at first" */
    private static void noFlagIsEnabled() {
        PortTimers x = new PortTimers();
        Check.due("read(14)", x.read(14), 128);
        for (int which = 0; which < 4; which++) {
            Check.fall(x, which);
        }
        Check.due("read(13)", x.read(13), 27);
        Check.due("out(4)", x.out(4), 0);
    }

    /** "timers ... are 0": each runs out with the first cycle, and is 65535. */
    private static void timersAreZero() {
        PortTimers x = new PortTimers();
        Check.due("timer 1", x.told(0), 0);
        Check.due("timer 2", x.told(1), 0);
        x.step(1);
        Check.due("timer 1 behind a cycle", x.told(0), 65535);
        Check.due("timer 2 behind a cycle", x.told(1), 65535);
    }

    /** "latches ... are 0" */
    private static void latchesAreZero() {
        PortTimers x = new PortTimers();
        Check.due("timer 1's latch", x.told(2), 0);
        x.write(5, 0x12);
        Check.due("timer 1, high byte alone written", x.told(0), 0x1200);
        x.write(9, 0x34);
        Check.due("timer 2, high byte alone written", x.told(1), 0x3400);
    }

    /** "and shifter are 0" */
    private static void theShifterIsZero() {
        Check.due("read(10)", new PortTimers().read(10), 0);
    }

    /** "no shifts to come" */
    private static void noShiftsAreToCome() {
        int[] controls = {8, 24};
        for (int control : controls) {
            PortTimers x = new PortTimers();
            x.write(11, control);
            x.line(3, true);
            Check.due("told(3)", x.told(3), 0);
            Check.due("step(40)", x.step(40), 0);
            Check.due("told(3) behind cycles", x.told(3), 0);
            Check.due("read(10) behind cycles", x.read(10), 0);
        }
    }

    /** "none armed": they run out without a flag. */
    private static void noneIsArmed() {
        PortTimers x = new PortTimers();
        Check.due("told(5)", x.told(5), 0);
        Check.due("step(1)", x.step(1), 0);
        Check.due("step(200000)", x.step(200000), 0);
    }

    /** "the timer's bit is 1" */
    private static void theTimersBitIsOne() {
        PortTimers x = new PortTimers();
        Check.due("told(4)", x.told(4), 1);
        x.write(11, 128);
        Check.due("port B", x.read(0), 128);
        x.write(2, 128);
        Check.due("out(1)", x.out(1), 128);
    }

    /** "which CB2 gives from then on (1 at first)" */
    private static void cb2GivesOne() {
        PortTimers x = new PortTimers();
        x.write(11, 24);
        Check.due("out(3)", x.out(3), 1);
        x.write(10, 0);
        x.step(1);
        Check.due("out(3), the first shift is not yet done", x.out(3), 1);
    }

    /** "with 4 and 5 it is 1, but 0 as told" */
    private static void nothingWasGiven() {
        int[] ways = {0x88, 0xAA};
        for (int w : ways) {
            PortTimers x = new PortTimers();
            x.write(12, w);
            Check.due("CA2, ways " + w, x.out(2), 1);
            Check.due("CB2, ways " + w, x.out(3), 1);
        }
    }

    /** "if it ran out in the cycle before": there was none. */
    private static void noLatchIsDue() {
        PortTimers x = new PortTimers();
        x.write(6, 9);
        x.write(11, 64);
        Check.due("step(1)", x.step(1), 64);
        Check.due("timer 1", x.told(0), 65535);
        Check.due("timer's bit is turned", x.told(4), 0);
    }

    /** "An object is used for at most 512 calls after it has been made" */
    private static void theLastOf512CallsCounts() {
        PortTimers x = new PortTimers();
        for (int i = 0; i < 511; i++) {
            x.step(200000);
        }
        Check.due("cycles, the 512th call", x.told(6), 511 * 200000);
    }
}
