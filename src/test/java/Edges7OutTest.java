/** Promise 7, sentence by sentence: what comes out at its edges. */
public final class Edges7OutTest {
    public static void main(String[] args) {
        portsBitByBit();
        theTimersBitNeedsItsPin();
        theTimersBitNeedsItsControlBit();
        fixedOutputs();
        noOutputsAreTwo();
        wayFourAndFiveGiveZeroWhenTouched();
        aReadOfBGivesNothing();
        whatWasGivenStaysTold();
        wayFourEndsInAnotherWay();
        mode6GivesBelowWay4();
        mode6GivesWhatItGaveLast();
        aFlagThatIsEnabledCalls();
        outChangesNothing();
        Check.end();
    }

    /** "of port A the outputs, else 0 (what = 0), of port B (1 ...)" */
    private static void portsBitByBit() {
        for (int bit = 1; bit < 256; bit <<= 1) {
            PortTimers x = new PortTimers();
            x.pins(255, 255);
            x.write(0, 255);
            x.write(1, 255);
            Check.due("port A, no output", x.out(0), 0);
            Check.due("port B, no output", x.out(1), 0);
            x.write(3, bit);
            Check.due("port A, output " + bit, x.out(0), bit);
            Check.due("port B, no output still", x.out(1), 0);
            x.write(2, bit);
            Check.due("port B, output " + bit, x.out(1), bit);
            x.write(0, 255 - bit);
            x.write(1, 255 - bit);
            Check.due("port A, output of 0", x.out(0), 0);
            Check.due("port B, output of 0", x.out(1), 0);
        }
    }

    /** "with the timer's bit where its pin is an output" */
    private static void theTimersBitNeedsItsPin() {
        PortTimers x = new PortTimers();
        x.write(11, 128);
        x.write(2, 127);
        Check.due("bit 1, its pin is an input", x.out(1), 0);
        x.write(2, 128);
        Check.due("bit 1, its pin is an output", x.out(1), 128);
        x.write(0, 255);
        x.write(5, 0);
        Check.due("bit 0, its pin is an output", x.out(1), 0);
        x.step(1);
        Check.due("bit 1, ran out", x.out(1), 128);
        x.write(0, 0);
        Check.due("bit 1, OUT B is 0", x.out(1), 128);
        x.write(3, 255);
        Check.due("port A has none", x.out(0), 0);
    }

    private static void theTimersBitNeedsItsControlBit() {
        PortTimers x = new PortTimers();
        x.write(11, 127);
        x.write(2, 255);
        Check.due("control bit 7 is 0, OUT B is 0", x.out(1), 0);
        x.write(5, 9);
        x.write(0, 255);
        Check.due("control bit 7 is 0, OUT B is 255", x.out(1), 255);
    }

    /** "what it gives is 0 with 6, 1 with 7": whatever else comes */
    private static void fixedOutputs() {
        int[] controls = {0, 24};
        for (int control : controls) {
            PortTimers x = new PortTimers();
            x.write(11, control);
            x.write(12, 0xCC);
            Check.due("CA2, way 6", x.out(2), 0);
            Check.due("CB2, way 6", x.out(3), 0);
            x.line(1, true);
            x.line(3, true);
            Check.due("CA2, way 6, the world's is 1", x.out(2), 0);
            Check.due("CB2, way 6, the world's is 1", x.out(3), 0);
            x.write(12, 0xEE);
            x.read(1);
            x.write(0, 0);
            Check.due("CA2, way 7, touched", x.out(2), 1);
            Check.due("CB2, way 7, touched", x.out(3), 1);
        }
    }

    /** "what CA2 gives, 2 when it is no output (2), CB2 (3" */
    private static void noOutputsAreTwo() {
        for (int way = 0; way < 4; way++) {
            PortTimers x = new PortTimers();
            x.write(12, way << 5 | way << 1);
            for (int i = 0; i < 2; i++) {
                Check.due("CA2, way " + way, x.out(2), 2);
                Check.due("CB2, way " + way, x.out(3), 2);
                x.line(1, true);
                x.line(3, true);
                x.read(1);
                x.write(0, 0);
            }
        }
    }

    /** "with 4 and 5 it is 1, but 0 as told" */
    private static void wayFourAndFiveGiveZeroWhenTouched() {
        int[] ways = {0x88, 0xAA};
        for (int w : ways) {
            PortTimers x = new PortTimers();
            x.write(12, w);
            x.write(1, 0);
            Check.due("CA2, A written, ways " + w, x.out(2), 0);
            Check.due("CB2, A written, ways " + w, x.out(3), 1);
            x.write(0, 0);
            Check.due("CB2, B written, ways " + w, x.out(3), 0);
            PortTimers y = new PortTimers();
            y.write(12, w);
            y.read(1);
            Check.due("CA2, A read, ways " + w, y.out(2), 0);
            PortTimers z = new PortTimers();
            z.write(12, w);
            z.write(0, 0);
            Check.due("CA2, B written alone, ways " + w, z.out(2), 1);
        }
    }

    /** "when it is by a write, CB2 likewise" */
    private static void aReadOfBGivesNothing() {
        int[] ways = {0x88, 0xAA};
        for (int w : ways) {
            PortTimers x = new PortTimers();
            x.write(12, w);
            x.read(0);
            Check.due("CB2, B read, ways " + w, x.out(3), 1);
            x.write(0, 0);
            x.read(0);
            Check.due("CB2, B written, then read, ways " + w, x.out(3), 0);
        }
    }

    /** "in that way; what was given so stays told when the way is another one between" */
    private static void whatWasGivenStaysTold() {
        int[] others = {0x00, 0x22, 0x44, 0x66, 0xCC, 0xEE};
        for (int other : others) {
            PortTimers x = States.wayFourGives();
            x.write(12, other);
            Check.due("CA2 in another way", x.out(2), other < 0x80 ? 2 : other == 0xCC ? 0 : 1);
            x.step(9);
            x.write(12, 0x88);
            Check.due("CA2, back in way 4", x.out(2), 0);
            Check.due("CB2, back in way 4", x.out(3), 0);
            x.write(12, 0xAA);
            Check.due("CA2, way 5 gave nothing", x.out(2), 1);
            Check.due("CB2, way 5 gave nothing", x.out(3), 1);
            x.read(1);
            x.write(0, 0);
            x.write(12, other);
            x.write(12, 0xAA);
            Check.due("CA2, back in way 5", x.out(2), 0);
            Check.due("CB2, back in way 5", x.out(3), 0);
        }
    }

    private static void wayFourEndsInAnotherWay() {
        PortTimers x = States.wayFourGives();
        x.write(12, 0x00);
        Check.fall(x, 0);
        Check.fall(x, 2);
        x.write(12, 0x88);
        Check.due("CA2", x.out(2), 1);
        Check.due("CB2", x.out(3), 1);
    }

    /** "in mode 6 it gives, whatever its way is below 4" */
    private static void mode6GivesBelowWay4() {
        for (int way = 0; way < 4; way++) {
            PortTimers x = new PortTimers();
            x.write(12, way << 5 | way << 1);
            x.write(11, 24);
            Check.due("CB2, mode 6, way " + way, x.out(3), 1);
            Check.due("CA2, mode 6, way " + way, x.out(2), 2);
            x.write(10, 0);
            x.step(2);
            Check.due("CB2, mode 6, a 0, way " + way, x.out(3), 0);
            x.write(11, 8);
            Check.due("CB2, mode 2, way " + way, x.out(3), 2);
            x.write(11, 28);
            Check.due("CB2, mode 7, way " + way, x.out(3), 2);
        }
        PortTimers x = States.wayFourGives();
        x.write(11, 24);
        Check.due("CB2, mode 6, way 4", x.out(3), 0);
    }

    private static void mode6GivesWhatItGaveLast() {
        PortTimers x = new PortTimers();
        x.write(11, 24);
        x.write(10, 0x40);
        x.step(2);
        x.write(11, 0);
        x.step(50);
        x.write(11, 24);
        Check.due("CB2, back in mode 6", x.out(3), 0);
        x.write(10, 0xFF);
        Check.due("CB2, written, not shifted", x.out(3), 0);
        x.step(2);
        Check.due("CB2, shifted", x.out(3), 1);
    }

    /** "1 if the processor is called (4): a flag that is enabled is 1" */
    private static void aFlagThatIsEnabledCalls() {
        int[] flagOfLine = {2, 1, 16, 8};
        for (int which = 0; which < 4; which++) {
            for (int bit = 1; bit < 128; bit <<= 1) {
                PortTimers x = new PortTimers();
                x.write(14, 128 | bit);
                Check.fall(x, which);
                Check.due("line " + which + ", enabled " + bit, x.out(4), bit == flagOfLine[which] ? 1 : 0);
            }
        }
        PortTimers x = States.flagsRaised();
        x.write(14, 127);
        Check.due("four flags, none enabled", x.out(4), 0);
        x.write(14, 255);
        Check.due("four flags, all enabled", x.out(4), 1);
        x.write(13, 127);
        Check.due("no flag, all enabled", x.out(4), 0);
    }

    private static void outChangesNothing() {
        for (int i = 0; i < States.ALL.size(); i++) {
            PortTimers x = States.ALL.get(i).get();
            for (int what = 0; what <= 4; what++) {
                Check.due("out(" + what + ") twice", x.out(what), x.out(what));
            }
            Check.due("all behind out, state " + i, Check.whole(x), Check.whole(States.ALL.get(i).get()));
        }
    }
}
