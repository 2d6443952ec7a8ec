/** Promise 9, sentence by sentence: "All as at first, but what the world gives." */
public final class Edges9ResetTest {
    public static void main(String[] args) {
        aNewObjectStaysAsItIs();
        everyStateIsAsAtFirst();
        twiceIsAsOnce();
        pinsStay();
        linesStay();
        linesAreNoEdges();
        heldPinsAreForgotten();
        aPulseGoesOnBehindIt();
        noLatchIsDueBehindIt();
        cyclesAreNoneAgain();
        theObjectGoesOnBehindIt();
        Check.end();
    }

    private static void sameAsNew(String name, PortTimers x) {
        Check.due(name, Check.whole(x), Check.whole(new PortTimers()));
    }

    private static void giveZeros(PortTimers x) {
        x.pins(0, 0);
        for (int which = 0; which < 4; which++) {
            x.line(which, false);
        }
    }

    private static void aNewObjectStaysAsItIs() {
        PortTimers x = new PortTimers();
        x.reset();
        sameAsNew("reset at first", x);
    }

    private static void everyStateIsAsAtFirst() {
        for (int i = 0; i < States.ALL.size(); i++) {
            PortTimers x = States.ALL.get(i).get();
            giveZeros(x);
            x.reset();
            sameAsNew("reset, state " + i, x);
        }
    }

    private static void twiceIsAsOnce() {
        PortTimers x = States.shiftingOut();
        x.reset();
        x.reset();
        sameAsNew("reset twice", x);
    }

    private static void pinsStay() {
        int[][] pairs = {{0, 0}, {255, 255}, {255, 0}, {0, 255}, {0x5A, 0xA5}};
        for (int[] pair : pairs) {
            PortTimers x = new PortTimers();
            x.pins(pair[0], pair[1]);
            x.write(2, 255);
            x.write(3, 255);
            x.reset();
            Check.due("port A", x.read(1), pair[0]);
            Check.due("port B", x.read(0), pair[1]);
        }
    }

    private static void linesStay() {
        for (int which = 0; which < 4; which++) {
            PortTimers x = new PortTimers();
            x.line(which, true);
            x.reset();
            Check.due("line " + which + " is 1 still", x.line(which, true), false);
            for (int other = 0; other < 4; other++) {
                Check.due("line " + other + " falls", x.line(other, false), other == which);
            }
        }
        PortTimers x = new PortTimers();
        x.line(3, true);
        x.reset();
        x.write(11, 8);
        x.write(10, 0);
        x.step(16);
        Check.due("CB2 is 1 for the shifter", x.read(10), 255);
    }

    /** The ways are 0 again, which moves no line. */
    private static void linesAreNoEdges() {
        PortTimers x = new PortTimers();
        x.write(12, 0x55);
        for (int which = 0; which < 4; which++) {
            x.line(which, true);
        }
        Check.due("flags before", x.read(13), 27);
        x.reset();
        Check.due("flags", x.read(13), 0);
        Check.due("step(0)", x.step(0), 0);
    }

    private static void heldPinsAreForgotten() {
        PortTimers x = States.flagsRaised();
        x.reset();
        x.write(11, 3);
        Check.due("port A", x.read(1), 0x3C);
        Check.due("port B", x.read(0), 0xC3);
    }

    private static void aPulseGoesOnBehindIt() {
        PortTimers x = States.countingPulses();
        x.reset();
        x.write(11, 32);
        x.write(9, 0);
        x.pins(0, 0);
        Check.due("flags, pin 6 was 1 still", x.read(13), 32);
        Check.due("timer 2", x.told(1), 65535);
    }

    /** Timer 1 ran out in the cycle before, but that was before all was as at first. */
    private static void noLatchIsDueBehindIt() {
        PortTimers x = States.latchIsDue();
        x.reset();
        x.write(11, 64);
        x.write(6, 9);
        Check.due("runs out from 0", x.step(1), 64);
        Check.due("timer 1", x.told(0), 65535);
        x.step(1);
        Check.due("timer 1, its latch", x.told(0), 9);
    }

    private static void cyclesAreNoneAgain() {
        PortTimers x = new PortTimers();
        x.step(200000);
        x.reset();
        Check.due("cycles", x.told(6), 0);
        x.step(3);
        Check.due("cycles, three more", x.told(6), 3);
    }

    private static void theObjectGoesOnBehindIt() {
        PortTimers x = States.allFull();
        x.reset();
        x.write(14, 0xC0);
        x.write(4, 2);
        x.write(5, 0);
        Check.due("two cycles", x.step(2), 0);
        Check.due("runs out", x.step(1), 192);
        x.reset();
        Check.due("flags", x.read(13), 0);
        Check.due("the processor is not called", x.out(4), 0);
    }
}
