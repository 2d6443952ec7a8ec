/** Promise 6: step. */
public final class Promise6StepTest {
    public static void main(String[] args) {
        timer1RunsOnce();
        timer1RunsFreely();
        timer1IsDueForItsLatch();
        timer1StaysArmedWhileItRunsFreely();
        timer1RunsFreelyWithLatchesOfTheEnds();
        timer1GoesManyRoundsOfANewLatch();
        onlyItsOwnControlBitCounts();
        timer2RunsOut();
        theShifterTakesIn();
        theShifterGives();
        theShifterWaitsInOtherModes();
        wayFiveIsOverBehindACycle();
        wayFourIsNot();
        theAnswerIsTheFlags();
        Check.end();
    }

    private static PortTimers withTimer1(int control, int latch) {
        PortTimers x = new PortTimers();
        x.write(11, control);
        x.write(4, latch & 255);
        x.write(5, latch >> 8);
        return x;
    }

    private static void timer1RunsOnce() {
        PortTimers x = withTimer1(0, 300);
        Check.due("step(300)", x.step(300), 0);
        Check.due("timer 1", x.told(0), 0);
        Check.due("step(1)", x.step(1), 64);
        Check.due("timer 1, ran out", x.told(0), 65535);
        Check.due("timer's bit", x.told(4), 1);
        Check.due("armed no more", x.told(5), 0);
        x.write(13, 64);
        Check.due("not again", x.step(65536), 0);
        Check.due("timer 1, once round", x.told(0), 65535);
    }

    private static void timer1RunsFreely() {
        PortTimers x = withTimer1(64, 2);
        int[] counts = {1, 0, 65535, 2, 1, 0, 65535, 2};
        int[] bits = {0, 0, 1, 1, 1, 1, 0, 0};
        for (int i = 0; i < counts.length; i++) {
            Check.due("flags, cycle " + i, x.step(1), counts[i] == 65535 ? 64 : 0);
            Check.due("timer 1, cycle " + i, x.told(0), counts[i]);
            Check.due("timer's bit, cycle " + i, x.told(4), bits[i]);
            x.write(13, 64);
        }
        Check.due("armed stays", x.told(5), 1);
    }

    private static void timer1IsDueForItsLatch() {
        PortTimers x = withTimer1(64, 0);
        x.step(1);
        x.write(11, 0);
        x.step(1);
        Check.due("bit 6 was 1 then, is 0 now", x.told(0), 65534);
        x.write(11, 64);
        x.step(1);
        Check.due("it ran out not in the cycle before", x.told(0), 65533);

        x = withTimer1(0, 0);
        x.step(1);
        x.write(11, 64);
        x.step(1);
        Check.due("bit 6 was 0 then, is 1 now", x.told(0), 65534);

        x = withTimer1(64, 0);
        x.step(1);
        x.write(11, 0);
        x.step(0);
        x.write(11, 64);
        x.write(6, 9);
        x.write(7, 1);
        x.step(1);
        Check.due("1 then and now, with a new latch", x.told(0), 265);

        x = withTimer1(64, 0);
        x.step(1);
        x.write(4, 7);
        x.write(5, 0);
        x.step(1);
        Check.due("written by 5 since", x.told(0), 6);
    }

    private static void timer1StaysArmedWhileItRunsFreely() {
        PortTimers x = withTimer1(64, 0);
        x.step(3);
        x.write(13, 64);
        x.write(11, 0);
        Check.due("timer's bit", x.told(4), 0);
        Check.due("step(70000)", x.step(70000), 64);
        Check.due("timer's bit, ran out once more", x.told(4), 1);
        Check.due("armed no more", x.told(5), 0);
        x.write(13, 64);
        x.write(11, 64);
        Check.due("freely, not armed", x.step(65536), 64);
        Check.due("timer's bit turned", x.told(4), 0);
    }

    private static void timer1RunsFreelyWithLatchesOfTheEnds() {
        PortTimers x = withTimer1(64, 0);
        x.step(200000);
        Check.due("latch 0, timer 1", x.told(0), 0);
        Check.due("latch 0, bit turned 100000 times", x.told(4), 0);
        x = withTimer1(64, 65535);
        x.step(65535);
        Check.due("latch 65535, timer 1", x.told(0), 0);
        Check.due("latch 65535, not ran out", x.read(13), 0);
        x.step(1);
        Check.due("latch 65535, ran out", x.read(13), 64);
        Check.due("latch 65535, bit", x.told(4), 1);
        x.step(1);
        Check.due("latch 65535, timer 1 becomes it", x.told(0), 65535);
        x.step(65536);
        Check.due("latch 65535, bit behind a round", x.told(4), 0);
    }

    private static void timer1GoesManyRoundsOfANewLatch() {
        PortTimers x = withTimer1(64, 10);
        x.write(6, 3);
        x.step(11 + 5 * 7 + 2);
        Check.due("timer 1, eight times and two cycles", x.told(0), 2);
        Check.due("timer's bit, eight times", x.told(4), 0);
        x.step(3 + 5 * 4);
        Check.due("timer 1, five times more", x.told(0), 65535);
        Check.due("timer's bit, five times more", x.told(4), 1);
    }

    private static void onlyItsOwnControlBitCounts() {
        PortTimers x = withTimer1(255 - 64 - 32, 1);
        x.write(9, 0);
        x.step(3);
        Check.due("timer 1, control bit 6 is 0", x.told(0), 65534);
        Check.due("timer 2, control bit 5 is 0", x.told(1), 65533);
        x = withTimer1(64 + 32, 1);
        x.write(9, 0);
        x.step(3);
        Check.due("timer 1, control bit 6 is 1", x.told(0), 1);
        Check.due("timer 2, control bit 5 is 1", x.told(1), 0);
    }

    private static void timer2RunsOut() {
        PortTimers x = new PortTimers();
        x.write(8, 4);
        x.write(9, 1);
        Check.due("step(260)", x.step(260), 0);
        Check.due("step(1)", x.step(1), 32);
        Check.due("armed no more", x.told(5), 0);
        x.write(13, 32);
        Check.due("not again", x.step(200000), 0);
        Check.due("timer 2", x.told(1), 65535 - 200000 + 3 * 65536);
        x.write(11, 32);
        x.step(5);
        Check.due("timer 2 counts no cycles", x.told(1), 65535 - 200000 + 3 * 65536);
    }

    private static void theShifterTakesIn() {
        PortTimers x = new PortTimers();
        x.write(11, 8);
        x.write(10, 0xFF);
        boolean[] bits = {true, false, false, true, true, false, true, false};
        for (int i = 0; i < 8; i++) {
            x.line(3, !bits[i]);
            x.step(1);
            x.line(3, bits[i]);
            x.write(13, 8);
            Check.due("flags, shift " + i, x.step(1), i == 7 ? 4 : 0);
            Check.due("to come, shift " + i, x.told(3), 7 - i);
        }
        x.line(3, true);
        x.step(10);
        Check.due("out(3) in mode 2", x.out(3), 2);
        Check.due("read(10)", x.read(10), 0x9A);
    }

    private static void theShifterGives() {
        PortTimers x = new PortTimers();
        x.write(11, 24);
        x.write(10, 0x35);
        int before = 1;
        for (int i = 0; i < 8; i++) {
            x.step(1);
            Check.due("out(3) before shift " + i, x.out(3), before);
            before = 0x35 >> 7 - i & 1;
            Check.due("flags, shift " + i, x.step(1), i == 7 ? 4 : 0);
            Check.due("out(3) behind shift " + i, x.out(3), before);
        }
        x.write(10, 0);
        Check.due("given bit stays", x.out(3), 1);
        x.step(2);
        Check.due("given bit is the shift's", x.out(3), 0);
    }

    private static void theShifterWaitsInOtherModes() {
        for (int mode = 0; mode < 8; mode++) {
            PortTimers x = new PortTimers();
            x.write(11, 24);
            x.write(10, 0x80);
            x.step(3);
            x.write(11, mode << 2);
            x.step(5);
            boolean shifts = mode == 2 || mode == 6;
            Check.due("to come, mode " + mode, x.told(3), shifts ? 4 : 7);
            x.write(11, 24);
            x.step(1);
            Check.due("to come, mode 6 behind mode " + mode, x.told(3), shifts ? 4 : 6);
            Check.due("all of it, mode " + mode, x.step(200), 4);
            Check.due("none to come", x.told(3), 0);
        }
    }

    private static void wayFiveIsOverBehindACycle() {
        PortTimers x = new PortTimers();
        x.write(12, 0xAA);
        x.read(1);
        x.write(0, 0);
        x.step(0);
        Check.due("CA2 behind no cycle", x.out(2), 0);
        Check.due("CB2 behind no cycle", x.out(3), 0);
        Check.fall(x, 0);
        Check.fall(x, 2);
        Check.due("CA2 behind CA1's edge", x.out(2), 0);
        Check.due("CB2 behind CB1's edge", x.out(3), 0);
        x.step(1);
        Check.due("CA2 behind a cycle", x.out(2), 1);
        Check.due("CB2 behind a cycle", x.out(3), 1);
        x.read(1);
        x.write(0, 0);
        x.write(12, 0);
        x.step(1);
        x.write(12, 0xAA);
        Check.due("CA2, a cycle in another way", x.out(2), 1);
        Check.due("CB2, a cycle in another way", x.out(3), 1);
    }

    private static void wayFourIsNot() {
        PortTimers x = new PortTimers();
        x.write(12, 0x88);
        x.write(1, 0);
        x.write(0, 0);
        x.step(200000);
        Check.due("CA2 behind cycles", x.out(2), 0);
        Check.due("CB2 behind cycles", x.out(3), 0);
    }

    private static void theAnswerIsTheFlags() {
        PortTimers x = new PortTimers();
        x.write(14, 0x81);
        Check.due("step(0)", x.step(0), 0);
        Check.fall(x, 0);
        Check.due("step(0), not enabled", x.step(0), 2);
        Check.fall(x, 1);
        Check.due("step(0), enabled", x.step(0), 131);
        Check.due("step(200000)", x.step(200000), 131);
        Check.due("cycles", x.told(6), 200000);
    }
}
