/** Promise 2, sentence by sentence: what a write does at its edges, and what it leaves alone. */
public final class Edges2WriteTest {
    public static void main(String[] args) {
        outsTakeAllBytes();
        directionsAreApart();
        latchBytesAreApart();
        timer1BecomesTheWholeLatch();
        timer1IsArmedAgain();
        timer1IsWrittenWhileItsLatchIsDue();
        latchWritesDoNotStart();
        timer2sLatchIsOneByte();
        timer2IsArmedAgain();
        shiftsAreEightAgain();
        theFirstShiftIsBehindTwoCycles();
        flagsWithAOneAreZero();
        flagsAreEnabledOneByOne();
        touchesLeaveOtherFlags();
        touchesOfFlagsThatAreZero();
        register15TouchesNothing();
        wayFiveGivesUpToTheNextCycle();
        aSecondTouchChangesNothing();
        controlAloneMovesNothing();
        Check.end();
    }

    /** "0: port B; written: OUT B"; "1: port A; written OUT A"; "15: as 1" */
    private static void outsTakeAllBytes() {
        PortTimers x = new PortTimers();
        x.write(2, 255);
        x.write(3, 255);
        int[] bytes = {255, 0, 128, 1, 127, 254, 0};
        for (int v : bytes) {
            x.write(0, v);
            Check.due("OUT B " + v, x.out(1), v);
            x.write(1, v);
            Check.due("OUT A " + v, x.out(0), v);
            x.write(15, 255 - v);
            Check.due("OUT A by 15 " + v, x.out(0), 255 - v);
            Check.due("OUT B still " + v, x.out(1), v);
        }
    }

    /** "2, 3: directions B, A" */
    private static void directionsAreApart() {
        PortTimers x = new PortTimers();
        x.write(0, 255);
        x.write(1, 255);
        x.write(2, 255);
        Check.due("out(0), directions B full", x.out(0), 0);
        Check.due("out(1), directions B full", x.out(1), 255);
        x.write(3, 1);
        x.write(2, 0);
        Check.due("out(0), directions A 1", x.out(0), 1);
        Check.due("out(1), directions B empty", x.out(1), 0);
    }

    /** "4: ... written, its latch's low byte"; "6: the latch's low byte. 7: its high byte" */
    private static void latchBytesAreApart() {
        PortTimers x = new PortTimers();
        x.write(4, 255);
        Check.due("4 full", x.told(2), 0x00FF);
        x.write(7, 255);
        Check.due("7 full", x.told(2), 0xFFFF);
        x.write(6, 0);
        Check.due("6 empty", x.told(2), 0xFF00);
        x.write(7, 0);
        Check.due("7 empty", x.told(2), 0);
        x.write(6, 255);
        x.write(5, 255);
        x.write(4, 0);
        Check.due("4 empty", x.told(2), 0xFF00);
        Check.due("timer 1 is not the latch's", x.told(0), 0xFFFF);
    }

    /** "5: ... the latch's high byte, the timer becomes the latch" */
    private static void timer1BecomesTheWholeLatch() {
        int[] words = {0, 1, 255, 256, 0x7FFF, 0x8000, 0xFF00, 0xFFFF};
        for (int word : words) {
            PortTimers x = new PortTimers();
            x.write(4, word & 255);
            x.write(5, word >> 8);
            Check.due("timer 1 of " + word, x.told(0), word);
            Check.due("latch of " + word, x.told(2), word);
            x.step(word);
            Check.due("flags behind " + word + " cycles", x.read(13), 0);
            Check.due("flags behind one more", x.step(1), 64);
        }
    }

    /** "is ARMED, flag 6 is 0, and the timer's bit is 0": also when it is so, or ran out. */
    private static void timer1IsArmedAgain() {
        PortTimers x = new PortTimers();
        x.write(5, 0);
        x.write(5, 0);
        Check.due("armed, written twice", x.told(5), 1);
        Check.due("timer's bit, written twice", x.told(4), 0);
        Check.due("ran out", x.step(1), 64);
        Check.due("armed no more", x.told(5), 0);
        Check.due("timer's bit, ran out", x.told(4), 1);
        x.write(5, 0);
        Check.due("flag 6, written again", x.read(13), 0);
        Check.due("armed again", x.told(5), 1);
        Check.due("timer's bit, written again", x.told(4), 0);
        Check.due("ran out again", x.step(1), 64);
    }

    /** "and it was not written by 5 since" */
    private static void timer1IsWrittenWhileItsLatchIsDue() {
        PortTimers x = States.latchIsDue();
        Check.due("timer 1 ran out", x.told(0), 65535);
        x.write(5, 0);
        Check.due("timer 1 is the new latch", x.told(0), 0x34);
        x.step(1);
        Check.due("timer 1 is 1 less", x.told(0), 0x33);
        int[] others = {4, 6, 7};
        for (int register : others) {
            PortTimers y = States.latchIsDue();
            y.write(register, 3);
            y.step(1);
            Check.due("timer 1, " + register + " written", y.told(0), register == 7 ? 0x334 : 3);
        }
    }

    /** Only 5 starts the timer: "4: ... its latch's low byte", "7: ... flag 6 is 0, too" */
    private static void latchWritesDoNotStart() {
        PortTimers x = new PortTimers();
        x.write(5, 0);
        x.step(1);
        int[] registers = {4, 6, 7};
        for (int register : registers) {
            x.write(register, 9);
            Check.due("timer 1, " + register + " written", x.told(0), 65535);
            Check.due("armed, " + register + " written", x.told(5), 0);
            Check.due("timer's bit, " + register + " written", x.told(4), 1);
            Check.due("flags, " + register + " written", x.read(13), register == 7 ? 0 : 64);
        }
    }

    /** "8: ... written, its latch (one byte). 9: ... timer 2 becomes that byte and the latch" */
    private static void timer2sLatchIsOneByte() {
        int[] words = {0, 1, 255, 256, 0x7FFF, 0x8000, 0xFF00, 0xFFFF};
        for (int word : words) {
            PortTimers x = new PortTimers();
            x.write(8, word & 255);
            Check.due("timer 2, 8 alone written", x.told(1), 0);
            x.write(9, word >> 8);
            Check.due("timer 2 of " + word, x.told(1), word);
            x.step(word);
            Check.due("flags behind " + word + " cycles", x.read(13), 0);
            Check.due("flags behind one more", x.step(1), 32);
            x.write(9, 0);
            Check.due("timer 2, its latch stays", x.told(1), word & 255);
        }
    }

    /** "is ARMED, flag 5 is 0" */
    private static void timer2IsArmedAgain() {
        PortTimers x = new PortTimers();
        x.write(9, 0);
        x.write(9, 0);
        Check.due("armed, written twice", x.told(5), 2);
        Check.due("ran out", x.step(1), 32);
        Check.due("armed no more", x.told(5), 0);
        x.write(9, 0);
        Check.due("flag 5, written again", x.read(13), 0);
        Check.due("armed again", x.told(5), 2);
        Check.due("ran out again", x.step(1), 32);
    }

    /** "10: ... flag 2 is 0, and eight shifts are to come": with any number of them to come. */
    private static void shiftsAreEightAgain() {
        for (int done = 0; done <= 8; done++) {
            PortTimers x = new PortTimers();
            x.write(11, 24);
            x.write(10, 0x5A);
            x.step(2 * done);
            Check.due("to come, " + done + " done", x.told(3), 8 - done);
            x.write(10, 0xA5);
            Check.due("to come, written", x.told(3), 8);
            Check.due("flags, written", x.read(13), 0);
            Check.due("15 cycles", x.step(15), 0);
            Check.due("16 cycles", x.step(1), 4);
        }
    }

    /** "the first one behind two cycles": also when a half of a shift's cycles was done. */
    private static void theFirstShiftIsBehindTwoCycles() {
        PortTimers x = new PortTimers();
        x.write(11, 24);
        x.write(10, 0);
        x.step(1);
        x.write(10, 0);
        x.step(1);
        Check.due("one cycle", x.told(3), 8);
        x.step(1);
        Check.due("two cycles", x.told(3), 7);
    }

    /** All seven flags, by all that can raise them. */
    private static PortTimers withAllFlags() {
        PortTimers x = new PortTimers();
        x.write(11, 24);
        x.write(10, 0);
        x.write(5, 0);
        x.write(9, 0);
        x.step(16);
        for (int which = 0; which < 4; which++) {
            Check.fall(x, which);
        }
        Check.due("all flags", x.read(13), 127);
        return x;
    }

    /** "13: ... written: flags with a 1 are 0" */
    private static void flagsWithAOneAreZero() {
        for (int bit = 1; bit <= 128; bit <<= 1) {
            PortTimers x = withAllFlags();
            x.write(13, bit);
            Check.due("flags, " + bit + " written", x.read(13), 127 & ~bit);
        }
        PortTimers x = withAllFlags();
        x.write(13, 0);
        Check.due("flags, 0 written", x.read(13), 127);
        x.write(13, 128);
        Check.due("flags, 128 written", x.read(13), 127);
        x.write(13, 127);
        Check.due("flags, 127 written", x.read(13), 0);
        x.write(13, 255);
        Check.due("flags, 255 written", x.read(13), 0);
    }

    /** "14: ... with bit 7, those with a 1 are enabled, else those with a 1 are not" */
    private static void flagsAreEnabledOneByOne() {
        PortTimers x = withAllFlags();
        x.write(14, 0);
        x.write(14, 128);
        Check.due("none by 0 and 128", x.read(14), 128);
        for (int bit = 1; bit < 128; bit <<= 1) {
            x.write(14, 128 | bit);
            Check.due("enabled " + bit, x.read(14), 128 | bit);
            x.write(14, 127 & ~bit);
            Check.due("the others are not", x.read(14), 128 | bit);
            x.write(14, bit);
            Check.due("no more " + bit, x.read(14), 128);
        }
        x.write(14, 255);
        Check.due("all by 255", x.read(14), 255);
        x.write(14, 0);
        Check.due("0 takes none", x.read(14), 255);
        x.write(14, 127);
        Check.due("127 takes all", x.read(14), 128);
        Check.due("flags stay", x.read(13), 127);
    }

    /** "TO TOUCH port A: flag 1 is 0; flag 0 too, but with the ways 1 and 3"; port B likewise */
    private static void touchesLeaveOtherFlags() {
        PortTimers x = withAllFlags();
        x.write(1, 0);
        Check.due("flags, A written", x.read(13), 127 - 3);
        x = withAllFlags();
        x.write(0, 0);
        Check.due("flags, B written", x.read(13), 127 - 24);
        for (int way = 0; way < 8; way++) {
            x = withAllFlags();
            x.write(12, way << 5 | way << 1);
            x.write(1, 0);
            x.write(0, 0);
            boolean kept = way == 1 || way == 3;
            Check.due("flags, ways " + way, x.read(13), kept ? 127 - 2 - 16 : 127 - 3 - 24);
        }
    }

    private static void touchesOfFlagsThatAreZero() {
        PortTimers x = new PortTimers();
        x.write(0, 255);
        x.write(1, 255);
        x.read(0);
        x.read(1);
        Check.due("flags", x.read(13), 0);
    }

    /** "15: as 1, without touching" */
    private static void register15TouchesNothing() {
        int[] ways = {0x00, 0x88, 0xAA};
        for (int w : ways) {
            PortTimers x = withAllFlags();
            x.write(12, w);
            x.write(15, 255);
            Check.due("flags, ways " + w, x.read(13), 127);
            Check.due("CA2, ways " + w, x.out(2), w == 0 ? 2 : 1);
        }
    }

    /** "with way 5 up to the end of the next cycle" */
    private static void wayFiveGivesUpToTheNextCycle() {
        PortTimers x = new PortTimers();
        x.write(12, 0xAA);
        for (int i = 0; i < 3; i++) {
            x.write(1, 0);
            x.write(0, 0);
            Check.due("CA2, touched", x.out(2), 0);
            Check.due("CB2, touched", x.out(3), 0);
            x.step(1);
            Check.due("CA2, a cycle later", x.out(2), 1);
            Check.due("CB2, a cycle later", x.out(3), 1);
        }
    }

    private static void aSecondTouchChangesNothing() {
        PortTimers x = States.wayFourGives();
        x.write(1, 0);
        x.write(0, 0);
        Check.due("CA2, touched twice", x.out(2), 0);
        Check.due("CB2, touched twice", x.out(3), 0);
        Check.fall(x, 0);
        Check.fall(x, 2);
        Check.due("CA2, one edge ends both", x.out(2), 1);
        Check.due("CB2, one edge ends both", x.out(3), 1);
    }

    /** "11, 12: control, ways": that alone raises no flag, counts nothing and shifts nothing. */
    private static void controlAloneMovesNothing() {
        PortTimers x = States.countingPulses();
        x.write(10, 0x80);
        int[] bytes = {0, 255, 0, 64, 24, 32};
        for (int v : bytes) {
            x.write(11, v);
            x.write(12, v);
            Check.due("flags, " + v, x.read(13), 0);
            Check.due("timer 1, " + v, x.told(0), 0);
            Check.due("timer 2, " + v, x.told(1), 0);
            Check.due("to come, " + v, x.told(3), 8);
            Check.due("armed, " + v, x.told(5), 2);
            Check.due("timer's bit, " + v, x.told(4), 1);
        }
    }
}
