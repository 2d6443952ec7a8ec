/** Promise 4, sentence by sentence: pins at their edges, and what timer 2 makes of them. */
public final class Edges4PinsTest {
    public static void main(String[] args) {
        pinsOfTheEnds();
        pinsWhereTheDirectionIsOne();
        onlyPin6OfBCounts();
        aFallCountsAtOnce();
        timer2WrapsByAPulse();
        timer2RunsOutOnlyWhenArmed();
        pulsesCountWithTheBitAlone();
        cyclesDoNotCountWithTheBit();
        stayingAndRisingDoNotCount();
        pulsesCountWhateverTheDirectionIs();
        pinsRaiseNoOtherFlag();
        Check.end();
    }

    private static PortTimers counting(int timer2) {
        PortTimers x = new PortTimers();
        x.write(11, 32);
        x.write(8, timer2 & 255);
        x.write(9, timer2 >> 8);
        return x;
    }

    private static void pulse(PortTimers x) {
        x.pins(0, 64);
        x.pins(0, 0);
    }

    /** "The world's pins A, and B": 0 and 255 themselves, each by itself */
    private static void pinsOfTheEnds() {
        PortTimers x = new PortTimers();
        int[][] pairs = {{255, 0}, {0, 255}, {255, 255}, {0, 0}, {1, 128}, {128, 1}};
        for (int[] pair : pairs) {
            x.pins(pair[0], pair[1]);
            Check.due("port A", x.read(1), pair[0]);
            Check.due("port B", x.read(0), pair[1]);
        }
    }

    private static void pinsWhereTheDirectionIsOne() {
        PortTimers x = new PortTimers();
        x.write(2, 255);
        x.write(3, 255);
        x.pins(255, 255);
        Check.due("port A, all outputs", x.read(1), 0);
        Check.due("port B, all outputs", x.read(0), 0);
        Check.due("out(0)", x.out(0), 0);
        Check.due("out(1)", x.out(1), 0);
        x.write(2, 0);
        x.write(3, 0);
        Check.due("port A, all inputs", x.read(1), 255);
        Check.due("port B, all inputs", x.read(0), 255);
    }

    /** "bit 6 of pins B" */
    private static void onlyPin6OfBCounts() {
        for (int bit = 1; bit < 256; bit <<= 1) {
            PortTimers x = counting(9);
            x.pins(255, bit);
            x.pins(0, 0);
            Check.due("timer 2, pins " + bit + " fell", x.told(1), bit == 64 ? 8 : 9);
        }
    }

    /** "when that comes, not in cycles" */
    private static void aFallCountsAtOnce() {
        PortTimers x = counting(2);
        for (int i = 0; i < 2; i++) {
            pulse(x);
            Check.due("timer 2, no cycle done", x.told(1), 1 - i);
        }
        Check.due("flags, not yet", x.read(13), 0);
        pulse(x);
        Check.due("flags, ran out", x.read(13), 32);
        Check.due("cycles", x.told(6), 0);
    }

    /** "65535 behind 0: it RUNS OUT" */
    private static void timer2WrapsByAPulse() {
        PortTimers x = counting(0);
        x.write(14, 0xA0);
        x.pins(0, 64);
        Check.due("timer 2, before the fall", x.told(1), 0);
        x.pins(0, 0);
        Check.due("timer 2, wrapped", x.told(1), 65535);
        Check.due("the processor is called", x.out(4), 1);
        Check.due("armed no more", x.told(5), 0);
        pulse(x);
        Check.due("timer 2, goes on", x.told(1), 65534);
    }

    /** "if it runs out so, and is armed" */
    private static void timer2RunsOutOnlyWhenArmed() {
        PortTimers x = new PortTimers();
        x.write(11, 32);
        pulse(x);
        Check.due("timer 2, never armed", x.told(1), 65535);
        Check.due("flags, never armed", x.read(13), 0);
    }

    /** "If the bit is 1" (control bit 5) */
    private static void pulsesCountWithTheBitAlone() {
        PortTimers x = counting(9);
        x.write(11, 255 - 32);
        pulse(x);
        Check.due("timer 2, all other control bits", x.told(1), 9);
        x.write(11, 255);
        pulse(x);
        Check.due("timer 2, all control bits", x.told(1), 8);
        x.pins(0, 64);
        x.write(11, 0);
        x.pins(0, 0);
        x.write(11, 32);
        Check.due("timer 2, fell while the bit was 0", x.told(1), 8);
        x.pins(0, 0);
        Check.due("timer 2, stays 0", x.told(1), 8);
    }

    private static void cyclesDoNotCountWithTheBit() {
        PortTimers x = counting(0);
        x.pins(0, 64);
        Check.due("step(200000)", x.step(200000), 0);
        Check.due("timer 2", x.told(1), 0);
        x.write(11, 0);
        Check.due("step(1), control bit 5 is 0", x.step(1), 32);
        x.pins(0, 0);
        Check.due("timer 2, no pulses then", x.told(1), 65535);
    }

    /** "becomes 0 from 1" */
    private static void stayingAndRisingDoNotCount() {
        PortTimers x = counting(0);
        x.pins(0, 0);
        x.pins(0, 255 - 64);
        Check.due("timer 2, stays 0", x.told(1), 0);
        x.pins(0, 64);
        Check.due("timer 2, rises", x.told(1), 0);
        x.pins(0, 64);
        x.pins(255, 255);
        Check.due("timer 2, stays 1", x.told(1), 0);
    }

    /** "bit 6 of pins B": the pins themselves, not the port or what comes out of it */
    private static void pulsesCountWhateverTheDirectionIs() {
        PortTimers x = counting(9);
        x.write(2, 255);
        pulse(x);
        Check.due("timer 2, pin 6 is an output", x.told(1), 8);
        x.write(0, 255);
        x.write(0, 0);
        Check.due("timer 2, OUT B fell", x.told(1), 8);
        x.pins(0, 64);
        x.write(2, 0);
        x.write(2, 255);
        Check.due("timer 2, port B fell by its directions", x.told(1), 8);
    }

    private static void pinsRaiseNoOtherFlag() {
        PortTimers x = counting(0);
        x.write(14, 255);
        x.pins(255, 255);
        x.pins(0, 0);
        Check.due("flags", x.read(13), 128 + 32);
        Check.due("timer 1", x.told(0), 0);
    }
}
