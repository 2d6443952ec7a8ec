/** Promise 9: reset. */
public final class Promise9ResetTest {
    public static void main(String[] args) {
        allIsAsAtFirst();
        theWorldStays();
        whatWasGivenIsForgotten();
        whatIsDueIsForgotten();
        Check.end();
    }

    private static void allIsAsAtFirst() {
        PortTimers x = new PortTimers();
        for (int which = 0; which < 4; which++) {
            Check.fall(x, which);
        }
        for (int register = 0; register < 16; register++) {
            if (register != 13) {
                x.write(register, 0xDB);
            }
        }
        x.write(10, 0x5B);
        x.step(3);
        Check.due("shifts to come before", x.told(3), 7);
        Check.due("OUT A before", x.out(0), 0xDB);
        x.reset();
        Check.due("the state", Check.state(x), Check.state(new PortTimers()));
        Check.due("port B", x.read(0), 0);
        x.write(2, 255);
        x.write(3, 255);
        Check.due("OUT A", x.out(0), 0);
        Check.due("OUT B", x.out(1), 0);
        Check.due("step(70000)", x.step(70000), 0);
        x.write(9, 0);
        Check.due("timer 2's latch", x.told(1), 0);
        x.write(11, 24);
        Check.due("the shifter", x.read(10), 0);
    }

    private static void theWorldStays() {
        PortTimers x = new PortTimers();
        x.pins(0x12, 0x74);
        for (int which = 0; which < 4; which++) {
            x.line(which, true);
        }
        x.reset();
        Check.due("port A", x.read(1), 0x12);
        Check.due("port B", x.read(0), 0x74);
        for (int which = 0; which < 4; which++) {
            Check.due("line " + which + " falls", x.line(which, false), true);
        }
        x.write(11, 32);
        x.pins(0, 0);
        Check.due("timer 2, pin 6 fell", x.told(1), 65535);
    }

    private static void whatWasGivenIsForgotten() {
        int[] ways = {0x88, 0xAA};
        for (int w : ways) {
            PortTimers x = new PortTimers();
            x.write(12, w);
            x.write(1, 0);
            x.write(0, 0);
            x.reset();
            x.write(12, w);
            Check.due("CA2", x.out(2), 1);
            Check.due("CB2", x.out(3), 1);
        }
    }

    private static void whatIsDueIsForgotten() {
        PortTimers x = new PortTimers();
        x.write(11, 64);
        x.write(5, 0);
        x.step(1);
        x.reset();
        x.write(11, 64);
        x.step(1);
        Check.due("timer 1 runs out, no latch was due", x.told(0), 65535);
        x.reset();
        x.write(11, 24);
        x.write(10, 0);
        x.step(3);
        Check.due("what the shifter gives before", x.out(3), 0);
        x.reset();
        x.write(11, 24);
        Check.due("what the shifter gives", x.out(3), 1);
        Check.due("no shifts come", x.step(100), 0);
        x.write(10, 0);
        x.step(1);
        Check.due("no half shift is left", x.told(3), 8);
    }
}
