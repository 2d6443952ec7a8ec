/** Promise 3: read. */
public final class Promise3ReadTest {
    public static void main(String[] args) {
        portsAreOutsAndPins();
        theTimersBitIsPortBsTop();
        portAIsTouched();
        portBIsTouchedButGivesNothing();
        heldPinsCount();
        heldPinsAreThoseOfTheLastEdge();
        timersAreRead();
        theShifterIsRead();
        flagsTellTheCall();
        Check.end();
    }

    private static void portsAreOutsAndPins() {
        PortTimers x = new PortTimers();
        x.write(3, 0xF0);
        x.write(2, 0x3C);
        x.write(1, 0xA5);
        x.write(0, 0x5A);
        x.pins(0x3C, 0xC3);
        Check.due("port A", x.read(1), 0xAC);
        Check.due("port A by 15", x.read(15), 0xAC);
        Check.due("port B", x.read(0), 0xDB);
    }

    private static void theTimersBitIsPortBsTop() {
        PortTimers x = new PortTimers();
        x.write(11, 128);
        Check.due("port B, bit 1, an input of 0", x.read(0), 128);
        x.write(5, 1);
        x.pins(255, 255);
        Check.due("port B, bit 0, an input of 1", x.read(0), 127);
        x.write(2, 128);
        x.write(0, 255);
        Check.due("port B, bit 0, an output of 1", x.read(0), 127);
        Check.due("port A has no timer's bit", x.read(1), 255);
        x.write(11, 0);
        Check.due("port B, control bit 7 is 0", x.read(0), 255);
    }

    private static PortTimers withLineFlags(int ways) {
        PortTimers x = new PortTimers();
        for (int which = 0; which < 4; which++) {
            Check.fall(x, which);
        }
        x.write(12, ways);
        return x;
    }

    private static void portAIsTouched() {
        for (int way = 0; way < 8; way++) {
            PortTimers x = withLineFlags(way << 1);
            x.read(15);
            Check.due("flags, 15 read, way " + way, x.read(13), 27);
            Check.due("CA2, 15 read, way " + way, x.out(2), way < 4 ? 2 : way == 6 ? 0 : 1);
            x.read(1);
            boolean kept = way == 1 || way == 3;
            Check.due("flags, A read, way " + way, x.read(13), kept ? 25 : 24);
            int[] gives = {2, 2, 2, 2, 0, 0, 0, 1};
            Check.due("CA2, A read, way " + way, x.out(2), gives[way]);
        }
    }

    private static void portBIsTouchedButGivesNothing() {
        for (int way = 0; way < 8; way++) {
            PortTimers x = withLineFlags(way << 5);
            x.read(0);
            boolean kept = way == 1 || way == 3;
            Check.due("flags, B read, way " + way, x.read(13), kept ? 11 : 3);
            int[] gives = {2, 2, 2, 2, 1, 1, 0, 1};
            Check.due("CB2, B read, way " + way, x.out(3), gives[way]);
        }
    }

    private static void heldPinsCount() {
        PortTimers x = new PortTimers();
        x.pins(0x11, 0x22);
        Check.fall(x, 0);
        Check.fall(x, 2);
        x.pins(0xFF, 0xEE);
        Check.due("port A, not held", x.read(15), 0xFF);
        x.write(11, 1);
        Check.due("port A, held", x.read(15), 0x11);
        x.write(3, 0x0F);
        Check.due("port A, held where it is no output", x.read(15), 0x10);
        x.write(11, 2);
        Check.due("port A, B alone held", x.read(15), 0xF0);
        Check.due("port B, held", x.read(0), 0x22);
        Check.due("port B, its flag lowered by the read", x.read(0), 0xEE);
        Check.fall(x, 2);
        x.pins(0xFF, 0xDD);
        x.write(11, 1);
        Check.due("port B, A alone held", x.read(0), 0xDD);
        x.write(13, 2);
        Check.due("port A, its flag lowered", x.read(15), 0xF0);
        x.write(11, 0x82);
        x.pins(0, 0x80);
        Check.fall(x, 2);
        x.write(5, 1);
        Check.due("port B, held, with the timer's bit", x.read(0), 0);
    }

    private static void heldPinsAreThoseOfTheLastEdge() {
        PortTimers x = new PortTimers();
        x.write(11, 3);
        x.pins(1, 2);
        Check.fall(x, 0);
        Check.fall(x, 2);
        x.pins(3, 4);
        Check.fall(x, 0);
        Check.fall(x, 2);
        x.pins(5, 6);
        x.line(0, true);
        x.line(2, true);
        Check.fall(x, 1);
        Check.fall(x, 3);
        Check.due("port A, second edge", x.read(1), 3);
        Check.due("port B, second edge", x.read(0), 4);
    }

    private static void timersAreRead() {
        PortTimers both = new PortTimers();
        both.write(4, 0x12);
        both.write(5, 0x34);
        both.write(8, 0x56);
        both.write(9, 0x78);
        both.step(1);
        Check.due("timer 1's low byte", both.read(4), 0x11);
        Check.due("timer 1's high byte", both.read(5), 0x34);
        Check.due("timer 2's low byte", both.read(8), 0x55);
        Check.due("timer 2's high byte", both.read(9), 0x78);
        timersAreReadWithTheirFlags();
    }

    private static void timersAreReadWithTheirFlags() {
        PortTimers x = new PortTimers();
        x.write(5, 0);
        x.write(9, 0);
        Check.due("step(300)", x.step(300), 96);
        Check.due("read(5)", x.read(5), (65536 - 300) >> 8);
        Check.due("read(9)", x.read(9), (65536 - 300) >> 8);
        Check.due("flags, high bytes read", x.read(13), 96);
        Check.due("read(4)", x.read(4), 65536 - 300 & 255);
        Check.due("flags, 4 read", x.read(13), 32);
        Check.due("read(8)", x.read(8), 65536 - 300 & 255);
        Check.due("flags, 8 read", x.read(13), 0);
        x.write(5, 0);
        x.step(1);
        x.write(6, 0x34);
        Check.due("read(6)", x.read(6), 0x34);
        Check.due("read(7)", x.read(7), 0);
        Check.due("flags, latch read", x.read(13), 64);
    }

    private static void theShifterIsRead() {
        PortTimers x = new PortTimers();
        x.write(10, 0x81);
        x.write(11, 24);
        Check.due("step(16)", x.step(16), 4);
        Check.due("to come", x.told(3), 0);
        Check.due("read(10)", x.read(10), 0x81);
        Check.due("flags, 10 read", x.read(13), 0);
        Check.due("to come, 10 read", x.told(3), 8);
        x.step(3);
        Check.due("read(10), shifted once", x.read(10), 0x03);
        x.step(1);
        Check.due("to come, one cycle behind the read", x.told(3), 8);
    }

    private static void flagsTellTheCall() {
        PortTimers x = new PortTimers();
        Check.fall(x, 0);
        x.write(14, 0xFD);
        Check.due("flags, another enabled", x.read(13), 2);
        x.write(14, 0x82);
        Check.due("flags, enabled", x.read(13), 130);
        x.write(13, 128);
        Check.due("flags, bit 7 written", x.read(13), 130);
        x.write(14, 2);
        Check.due("flags, no more enabled", x.read(13), 2);
    }
}
