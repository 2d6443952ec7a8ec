/** Promise 3, sentence by sentence: what a read answers at its edges, and does besides. */
public final class Edges3ReadTest {
    public static void main(String[] args) {
        portsBitByBit();
        theTimersBitIsBit7Alone();
        heldPinsNeedTheFlag();
        heldPinsNeedTheControlBit();
        heldPinsAreOfTheEdgeThatSetIt();
        heldPinsStayWithTheLastEdge();
        thePortIsReadBeforeItIsTouched();
        bytesOfTimersAtTheirEnds();
        highBytesLowerNoFlag();
        bytesOfTheLatch();
        theShifterIsReadAtAnyTime();
        bit7TellsEachFlag();
        enabledOnesHave128();
        readsThatChangeNothing();
        Check.end();
    }

    /** "PORT A is OUT A where its direction is 1, else pins A; PORT B likewise" */
    private static void portsBitByBit() {
        for (int bit = 1; bit < 256; bit <<= 1) {
            PortTimers x = new PortTimers();
            x.write(2, bit);
            x.write(3, bit);
            x.write(0, bit);
            x.write(1, bit);
            Check.due("port B, output 1, pins 0", x.read(0), bit);
            Check.due("port A, output 1, pins 0", x.read(1), bit);
            Check.due("port A by 15, output 1, pins 0", x.read(15), bit);
            x.pins(255, 255);
            x.write(0, 0);
            x.write(1, 0);
            Check.due("port B, output 0, pins 1", x.read(0), 255 - bit);
            Check.due("port A, output 0, pins 1", x.read(1), 255 - bit);
            Check.due("port A by 15, output 0, pins 1", x.read(15), 255 - bit);
        }
    }

    /** "but bit 7 is the TIMER'S BIT when control bit 7 is 1" */
    private static void theTimersBitIsBit7Alone() {
        int[] directions = {0, 0x7F, 0x80, 0xFF};
        for (int d : directions) {
            PortTimers x = new PortTimers();
            x.write(2, d);
            x.write(11, 127);
            Check.due("port B, control bit 7 is 0", x.read(0), 0);
            x.write(11, 128);
            Check.due("port B, the bit is 1", x.read(0), 128);
            x.write(5, 255);
            x.pins(0, 255);
            x.write(0, 255);
            Check.due("port B, the bit is 0", x.read(0), 127);
            Check.due("port A", x.read(1), 0);
        }
    }

    /** "and flag 1 (4) being 1" */
    private static void heldPinsNeedTheFlag() {
        PortTimers x = States.flagsRaised();
        x.write(13, 127 - 2 - 16);
        Check.due("port A, flag 1 alone", x.read(15), 0x5A);
        Check.due("port B, flag 4 alone", x.read(0), 0xA5);
        x = States.flagsRaised();
        x.write(13, 2);
        Check.due("port A, flag 1 lowered by 13", x.read(15), 0x3C);
        x.write(13, 16);
        Check.due("port B, flag 4 lowered by 13", x.read(0), 0xC3);
        x = States.flagsRaised();
        x.write(1, 0);
        x.write(0, 0);
        Check.due("port A, written before", x.read(15), 0x3C);
        Check.due("port B, written before", x.read(0), 0xC3);
    }

    /** "With control bit 0 (A) or 1 (B) set" */
    private static void heldPinsNeedTheControlBit() {
        PortTimers x = States.flagsRaised();
        x.write(11, 255 - 1 - 128);
        Check.due("port A, control bit 0 is 0", x.read(15), 0x3C);
        x.write(11, 1);
        Check.due("port A, control bit 0 is 1 again", x.read(15), 0x5A);
        x.write(11, 2);
        Check.due("port B, control bit 1 is 1", x.read(0), 0xA5);
        x = States.flagsRaised();
        x.write(11, 255 - 2 - 128);
        Check.due("port B, control bit 1 is 0", x.read(0), 0xC3);
    }

    /** "pins as they were with that line's last edge that set it" */
    private static void heldPinsAreOfTheEdgeThatSetIt() {
        PortTimers x = new PortTimers();
        x.pins(1, 2);
        Check.fall(x, 0);
        Check.fall(x, 2);
        x.pins(3, 4);
        Check.fall(x, 1);
        Check.fall(x, 3);
        x.line(0, true);
        x.line(2, true);
        x.line(0, true);
        x.line(2, true);
        x.pins(5, 6);
        x.write(11, 3);
        Check.due("port A", x.read(1), 1);
        Check.due("port B", x.read(0), 2);
    }

    private static void heldPinsStayWithTheLastEdge() {
        PortTimers x = States.flagsRaised();
        Check.fall(x, 0);
        Check.due("port A, a second edge", x.read(15), 0x3C);
        Check.due("port B, no second edge", x.read(0), 0xA5);
        x = States.flagsRaised();
        x.pins(0, 0);
        Check.fall(x, 2);
        x.pins(255, 255);
        Check.due("port A, no second edge", x.read(15), 0x5A);
        Check.due("port B, a second edge", x.read(0), 0);
    }

    private static void thePortIsReadBeforeItIsTouched() {
        PortTimers x = States.flagsRaised();
        Check.due("port A", x.read(1), 0x5A);
        Check.due("port A again", x.read(1), 0x3C);
        Check.due("port B", x.read(0), 0xA5);
        Check.due("port B again", x.read(0), 0xC3);
        Check.due("flags", x.read(13), 0);
    }

    /** "4: read, timer 1's low byte"; "5: ... high byte"; "8: ... low byte"; "9: ... high byte" */
    private static void bytesOfTimersAtTheirEnds() {
        int[] words = {0, 1, 255, 256, 0x7FFF, 0x8000, 0xFF00, 0xFFFF};
        for (int word : words) {
            PortTimers x = new PortTimers();
            x.write(4, word & 255);
            x.write(5, word >> 8);
            x.write(8, word & 255);
            x.write(9, word >> 8);
            for (int i = 0; i < 2; i++) {
                int now = word - i & 65535;
                Check.due("read(4) at " + now, x.read(4), now & 255);
                Check.due("read(5) at " + now, x.read(5), now >> 8);
                Check.due("read(8) at " + now, x.read(8), now & 255);
                Check.due("read(9) at " + now, x.read(9), now >> 8);
                x.step(1);
            }
        }
    }

    /** "4: ... flag 6 is 0"; "8: ... flag 5 is 0"; of 5 and 9 no such thing is said. */
    private static void highBytesLowerNoFlag() {
        PortTimers x = States.runOutIsNext();
        Check.due("both ran out", x.step(1), 128 + 96);
        x.read(5);
        x.read(9);
        x.read(6);
        x.read(7);
        Check.due("flags", x.read(13), 128 + 96);
        x.read(4);
        Check.due("flags, 4 read", x.read(13), 128 + 32);
        x.read(8);
        Check.due("flags, 8 read", x.read(13), 0);
        Check.due("not armed again", x.step(65536), 0);
    }

    /** "6: the latch's low byte. 7: its high byte" */
    private static void bytesOfTheLatch() {
        PortTimers x = new PortTimers();
        x.write(4, 255);
        x.write(5, 0);
        x.step(100);
        Check.due("read(6)", x.read(6), 255);
        Check.due("read(7)", x.read(7), 0);
        x.write(7, 255);
        x.write(6, 0);
        Check.due("read(6), high byte full", x.read(6), 0);
        Check.due("read(7), high byte full", x.read(7), 255);
    }

    /** "10: the shifter; read or written, flag 2 is 0, and eight shifts are to come" */
    private static void theShifterIsReadAtAnyTime() {
        for (int cycles = 0; cycles <= 18; cycles++) {
            PortTimers x = new PortTimers();
            x.write(11, 24);
            x.write(10, 0x01);
            x.step(cycles);
            int done = Math.min(cycles / 2, 8);
            int bits = (0x01 << done | 0x01 >> 8 - done) & 255;
            Check.due("read(10) behind " + cycles, x.read(10), bits);
            Check.due("flags, read", x.read(13), 0);
            Check.due("to come, read", x.told(3), 8);
            x.step(1);
            Check.due("to come, one cycle later", x.told(3), 8);
            Check.due("14 cycles more", x.step(14), 0);
            Check.due("to come, 15 cycles later", x.told(3), 1);
            Check.due("16 cycles", x.step(1), 4);
        }
    }

    private static PortTimers withFlag(int flag) {
        int[] lines = {1, 0, -1, 3, 2};
        PortTimers x = new PortTimers();
        if (flag == 2) {
            x.write(11, 24);
            x.write(10, 0);
            x.step(16);
        } else if (flag < 5) {
            Check.fall(x, lines[flag]);
        } else {
            x.write(flag == 5 ? 9 : 5, 0);
            x.step(1);
        }
        return x;
    }

    /** "13: read, the flags, and bit 7 if one of them is 1 that is enabled" */
    private static void bit7TellsEachFlag() {
        for (int flag = 0; flag < 7; flag++) {
            int bit = 1 << flag;
            PortTimers x = withFlag(flag);
            Check.due("flag " + flag + ", none enabled", x.read(13), bit);
            x.write(14, 255 - bit);
            Check.due("flag " + flag + ", all others enabled", x.read(13), bit);
            x.write(14, 127);
            x.write(14, 128 + bit);
            Check.due("flag " + flag + ", enabled", x.read(13), 128 + bit);
            Check.due("flag " + flag + ", step(0)", x.step(0), 128 + bit);
            Check.due("flag " + flag + ", out(4)", x.out(4), 1);
            x.write(13, bit);
            Check.due("flag " + flag + ", lowered", x.read(13), 0);
            Check.due("flag " + flag + ", lowered, out(4)", x.out(4), 0);
        }
    }

    /** "14: read, enabled ones, and 128" */
    private static void enabledOnesHave128() {
        PortTimers x = new PortTimers();
        Check.due("none", x.read(14), 128);
        x.write(14, 255);
        Check.due("all", x.read(14), 255);
        x.write(14, 127);
        Check.due("none again", x.read(14), 128);
    }

    /** Those reads that lower no flag and touch no port leave all alone. */
    private static void readsThatChangeNothing() {
        int[] registers = {2, 3, 5, 6, 7, 9, 11, 12, 13, 14, 15};
        for (int register : registers) {
            for (int i = 0; i < States.ALL.size(); i++) {
                PortTimers x = States.ALL.get(i).get();
                x.read(register);
                Check.due("all behind read(" + register + "), state " + i, Check.whole(x),
                        Check.whole(States.ALL.get(i).get()));
            }
        }
    }
}
