import java.util.List;
import java.util.function.Supplier;

/** Objects in states that hold as much as can be lost, for calls that must change nothing. */
final class States {
    static final List<Supplier<PortTimers>> ALL = List.of(PortTimers::new, States::flagsRaised,
            States::wayFourGives, States::latchIsDue, States::countingPulses, States::shiftingOut,
            States::shiftingIn, States::runOutIsNext, States::allFull);

    private States() {
    }

    /** The lines' flags are 1, two of them enabled, and the pins are held. */
    static PortTimers flagsRaised() {
        PortTimers x = new PortTimers();
        x.write(11, 3);
        x.write(14, 0x92);
        x.pins(0x5A, 0xA5);
        for (int which = 0; which < 4; which++) {
            Check.fall(x, which);
        }
        x.pins(0x3C, 0xC3);
        return x;
    }

    /** Way 4 gives 0 on both sides. */
    static PortTimers wayFourGives() {
        PortTimers x = new PortTimers();
        x.write(12, 0x88);
        x.write(1, 0x11);
        x.write(0, 0x22);
        return x;
    }

    /** Timer 1 ran out in the cycle before, and runs freely. */
    static PortTimers latchIsDue() {
        PortTimers x = new PortTimers();
        x.write(11, 64 + 128);
        x.write(4, 1);
        x.write(5, 0);
        x.step(2);
        x.write(6, 0x34);
        x.write(2, 0x80);
        return x;
    }

    /** Timer 2 runs out with the next pulse, whose first half has come. */
    static PortTimers countingPulses() {
        PortTimers x = new PortTimers();
        x.write(11, 32);
        x.write(9, 0);
        x.write(8, 0x77);
        x.pins(64, 64);
        for (int which = 0; which < 4; which++) {
            x.line(which, true);
        }
        return x;
    }

    /** Half of a shift's cycles are done, the shifter gives 0, and so does way 5 of CA2. */
    static PortTimers shiftingOut() {
        PortTimers x = new PortTimers();
        x.write(11, 24);
        x.write(10, 0x35);
        x.step(3);
        x.write(12, 0x0A);
        x.read(1);
        return x;
    }

    /** The eighth shift comes with the next cycle. */
    static PortTimers shiftingIn() {
        PortTimers x = new PortTimers();
        x.write(11, 8);
        x.line(3, true);
        x.write(10, 0x80);
        x.step(15);
        x.write(12, 0xA0);
        x.write(0, 0xF0);
        return x;
    }

    /** Both timers are armed, and 0. */
    static PortTimers runOutIsNext() {
        PortTimers x = new PortTimers();
        x.write(14, 0xE0);
        x.write(5, 0);
        x.write(9, 0);
        return x;
    }

    /** Every register was written with all its bits. */
    static PortTimers allFull() {
        PortTimers x = new PortTimers();
        x.pins(255, 255);
        for (int which = 0; which < 4; which++) {
            x.line(which, true);
        }
        for (int register = 0; register < 16; register++) {
            x.write(register, 255);
        }
        return x;
    }
}
