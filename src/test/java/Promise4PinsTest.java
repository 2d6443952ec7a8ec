/** Promise 4: pins. */
public final class Promise4PinsTest {
    public static void main(String[] args) {
        pinsAreSeen();
        timer2CountsPulses();
        timer2RunsOutByPulses();
        otherwisePulsesDoNotCount();
        Check.end();
    }

    private static void pinsAreSeen() {
        for (int v = 0; v < 256; v++) {
            PortTimers x = new PortTimers();
            x.pins(v, 255 - v);
            Check.due("port A", x.read(15), v);
            Check.due("port B", x.read(0), 255 - v);
            x.pins(0, 0);
            Check.due("port A, all 0 again", x.read(1), 0);
            Check.due("port B, all 0 again", x.read(0), 0);
        }
    }

    private static void timer2CountsPulses() {
        PortTimers x = new PortTimers();
        x.write(11, 32);
        x.write(9, 1);
        x.pins(0, 64);
        Check.due("timer 2, pin 6 rose", x.told(1), 256);
        x.pins(64, 255);
        Check.due("timer 2, pin 6 stayed 1", x.told(1), 256);
        x.pins(0, 191);
        Check.due("timer 2, pin 6 fell", x.told(1), 255);
        x.pins(0, 0);
        Check.due("timer 2, pin 6 stayed 0", x.told(1), 255);
        x.step(1000);
        Check.due("timer 2, cycles do not count", x.told(1), 255);
        x.write(2, 64);
        x.write(0, 64);
        x.pins(0, 64);
        x.write(0, 0);
        Check.due("timer 2, OUT B does not count", x.told(1), 255);
        x.pins(0, 0);
        Check.due("timer 2, pins count though it is an output", x.told(1), 254);
    }

    private static void pulse(PortTimers x) {
        x.pins(0, 64);
        x.pins(0, 0);
    }

    private static void timer2RunsOutByPulses() {
        PortTimers x = new PortTimers();
        x.write(11, 32);
        x.write(8, 1);
        x.write(9, 0);
        pulse(x);
        Check.due("flags, not yet", x.read(13), 0);
        pulse(x);
        Check.due("flags, ran out", x.read(13), 32);
        Check.due("timer 2, ran out", x.told(1), 65535);
        Check.due("armed no more", x.told(5), 0);
        x.write(13, 32);
        x.write(11, 0);
        x.step(65535);
        x.write(11, 32);
        pulse(x);
        Check.due("timer 2, ran out again", x.told(1), 65535);
        Check.due("flags, not armed", x.read(13), 0);
    }

    private static void otherwisePulsesDoNotCount() {
        PortTimers x = new PortTimers();
        x.write(9, 0);
        pulse(x);
        Check.due("timer 2, control bit 5 is 0", x.told(1), 0);
        x.pins(0, 64);
        x.write(11, 32);
        x.pins(0, 0);
        Check.due("flags, the bit set between", x.read(13), 32);
    }
}
