/** Promise 2: write. */
public final class Promise2WriteTest {
    public static void main(String[] args) {
        plainRegistersKeepTheirByte();
        portAIsTouched();
        portBIsTouched();
        register15DoesNotTouch();
        timer1IsWritten();
        theLatchIsWritten();
        timer2IsWritten();
        theShifterIsWritten();
        flagsAreLowered();
        flagsAreEnabled();
        Check.end();
    }

    private static void plainRegistersKeepTheirByte() {
        int[] registers = {2, 3, 6, 7, 11, 12};
        for (int register : registers) {
            PortTimers x = new PortTimers();
            for (int v = 0; v < 256; v++) {
                x.write(register, v);
                Check.due("read(" + register + ")", x.read(register), v);
            }
        }
    }

    /** All line flags, raised with ways that stay inputs whatever the way of line 2 is to be. */
    private static PortTimers withLineFlags(int ways) {
        PortTimers x = new PortTimers();
        for (int which = 0; which < 4; which++) {
            Check.fall(x, which);
        }
        x.write(12, ways);
        Check.due("all line flags", x.read(13), 27);
        return x;
    }

    private static void portAIsTouched() {
        for (int way = 0; way < 8; way++) {
            PortTimers x = withLineFlags(way << 1);
            x.write(1, 0xC3);
            boolean kept = way == 1 || way == 3;
            Check.due("flags, A written, way " + way, x.read(13), kept ? 25 : 24);
            int[] gives = {2, 2, 2, 2, 0, 0, 0, 1};
            Check.due("CA2, A written, way " + way, x.out(2), gives[way]);
            x.write(3, 0xF0);
            Check.due("port A", x.read(15), 0xC0);
        }
    }

    private static void portBIsTouched() {
        for (int way = 0; way < 8; way++) {
            PortTimers x = withLineFlags(way << 5);
            x.write(0, 0xC3);
            boolean kept = way == 1 || way == 3;
            Check.due("flags, B written, way " + way, x.read(13), kept ? 11 : 3);
            int[] gives = {2, 2, 2, 2, 0, 0, 0, 1};
            Check.due("CB2, B written, way " + way, x.out(3), gives[way]);
            x.write(2, 0x0F);
            Check.due("port B", x.read(0), 3);
        }
    }

    private static void register15DoesNotTouch() {
        PortTimers x = withLineFlags(8);
        x.write(15, 0xA5);
        x.write(3, 255);
        Check.due("flags, 15 written", x.read(13), 27);
        Check.due("CA2, 15 written", x.out(2), 1);
        Check.due("OUT A, 15 written", x.out(0), 0xA5);
    }

    private static void timer1IsWritten() {
        PortTimers x = new PortTimers();
        x.write(4, 2);
        Check.due("timer 1, 4 written", x.told(0), 0);
        Check.due("latch, 4 written", x.told(2), 2);
        x.write(5, 0);
        Check.due("step(3)", x.step(3), 64);
        Check.due("timer's bit, ran out", x.told(4), 1);
        x.write(4, 0x34);
        Check.due("flags, 4 written", x.read(13), 64);
        x.write(5, 0x12);
        Check.due("flags, 5 written", x.read(13), 0);
        Check.due("timer 1, 5 written", x.told(0), 0x1234);
        Check.due("latch, 5 written", x.told(2), 0x1234);
        Check.due("timer's bit, 5 written", x.told(4), 0);
        Check.due("armed, 5 written", x.told(5), 1);
    }

    private static void theLatchIsWritten() {
        PortTimers x = new PortTimers();
        x.write(5, 0);
        x.step(1);
        x.write(6, 0x78);
        Check.due("flags, 6 written", x.read(13), 64);
        x.write(7, 0x56);
        Check.due("flags, 7 written", x.read(13), 0);
        Check.due("latch", x.told(2), 0x5678);
        Check.due("timer 1", x.told(0), 65535);
        Check.due("timer's bit", x.told(4), 1);
        Check.due("armed", x.told(5), 0);
    }

    private static void timer2IsWritten() {
        PortTimers x = new PortTimers();
        x.write(9, 0);
        Check.due("step(1)", x.step(1), 32);
        x.write(8, 0x34);
        Check.due("timer 2, 8 written", x.told(1), 65535);
        Check.due("flags, 8 written", x.read(13), 32);
        x.write(9, 0x12);
        Check.due("timer 2, 9 written", x.told(1), 0x1234);
        Check.due("flags, 9 written", x.read(13), 0);
        Check.due("armed, 9 written", x.told(5), 2);
        x.write(9, 1);
        Check.due("timer 2, 9 written again", x.told(1), 0x134);
        x.write(5, 1);
        Check.due("both armed", x.told(5), 3);
    }

    private static void theShifterIsWritten() {
        PortTimers x = new PortTimers();
        x.write(11, 24);
        x.write(10, 0x80);
        x.step(5);
        Check.due("to come", x.told(3), 6);
        x.write(10, 0x80);
        Check.due("to come, 10 written", x.told(3), 8);
        x.step(1);
        Check.due("to come, one cycle", x.told(3), 8);
        x.step(1);
        Check.due("to come, two cycles", x.told(3), 7);
        Check.due("step(14)", x.step(14), 4);
        x.write(10, 0);
        Check.due("flags, 10 written", x.read(13), 0);
    }

    private static void flagsAreLowered() {
        PortTimers x = withLineFlags(0);
        x.write(13, 0x90);
        Check.due("flags, 13 written", x.read(13), 11);
        x.write(13, 0);
        Check.due("flags, 13 written with 0", x.read(13), 11);
        x.write(13, 255);
        Check.due("flags, 13 written with 255", x.read(13), 0);
    }

    private static void flagsAreEnabled() {
        PortTimers x = new PortTimers();
        x.write(14, 0x85);
        Check.due("enabled", x.read(14), 0x85);
        x.write(14, 0xC0);
        Check.due("enabled, one more", x.read(14), 0xC5);
        x.write(14, 0x44);
        Check.due("enabled, two less", x.read(14), 0x81);
        x.write(14, 0x80);
        Check.due("enabled, none more", x.read(14), 0x81);
        x.write(14, 0xFF);
        Check.due("enabled, all", x.read(14), 0xFF);
        x.write(14, 0x7F);
        Check.due("enabled, none", x.read(14), 0x80);
    }
}
