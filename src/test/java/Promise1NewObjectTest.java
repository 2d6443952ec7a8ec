/** Promise 1: a new object. */
public final class Promise1NewObjectTest {
    public static void main(String[] args) {
        everythingIsAsAtFirst();
        theWorldGivesZeros();
        nothingIsArmed();
        theShifterGivesOneAtFirst();
        objectsAreApart();
        Check.end();
    }

    private static void everythingIsAsAtFirst() {
        PortTimers x = new PortTimers();
        int[] told = {0, 0, 0, 0, 1, 0, 0};
        for (int what = 0; what < told.length; what++) {
            Check.due("told(" + what + ")", x.told(what), told[what]);
        }
        int[] out = {0, 0, 2, 2, 0};
        for (int what = 0; what < out.length; what++) {
            Check.due("out(" + what + ")", x.out(what), out[what]);
        }
        for (int register = 0; register < 16; register++) {
            Check.due("read(" + register + ")", x.read(register), register == 14 ? 128 : 0);
        }
    }

    private static void theWorldGivesZeros() {
        PortTimers x = new PortTimers();
        for (int which = 0; which < 4; which++) {
            Check.due("line(" + which + ", false) at first", x.line(which, false), false);
        }
        Check.due("flags", x.read(13), 0);
        x.write(12, 0x55);
        for (int which = 0; which < 4; which++) {
            Check.due("line(" + which + ", true) at first", x.line(which, true), true);
        }
        x.write(11, 32);
        x.pins(0, 0);
        Check.due("timer 2 behind pins of 0", x.told(1), 0);
    }

    private static void nothingIsArmed() {
        PortTimers x = new PortTimers();
        Check.due("step(70000)", x.step(70000), 0);
        Check.due("timer's bit", x.told(4), 1);
    }

    private static void theShifterGivesOneAtFirst() {
        PortTimers x = new PortTimers();
        x.write(11, 24);
        Check.due("out(3) in mode 6", x.out(3), 1);
        x.step(100);
        Check.due("out(3), no shifts to come", x.out(3), 1);
        Check.due("flags, no shifts to come", x.read(13), 0);
    }

    private static void objectsAreApart() {
        PortTimers x = new PortTimers();
        PortTimers y = new PortTimers();
        x.write(5, 1);
        x.write(14, 255);
        x.pins(1, 2);
        Check.due("the other object", Check.state(y), Check.state(new PortTimers()));
    }
}
