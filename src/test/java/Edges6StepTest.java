/** Promise 6, sentence by sentence: the cycles at their edges. */
public final class Edges6StepTest {
    public static void main(String[] args) {
        noCyclesChangeNothing();
        mostCyclesAreAllDone();
        manyCyclesAreAsOneByOne();
        timer1RunsOutBehindZero();
        timer1BecomesItsLatch();
        timer1BecomesALatchOfTheEnds();
        timer1NeedsTheBitThenAndNow();
        timer1NeedsTheCycleBefore();
        timer1RunsFreelyThoughNotArmed();
        timer1IsArmedNoMore();
        timer1SwitchesFromFreeToOnce();
        otherControlBitsDoNotCount();
        timer2RunsOutBehindZero();
        timer2IsArmedNoMore();
        timer2HasNoFreeRun();
        theShifterNeedsEachSecondCycle();
        theEighthShiftSetsTheFlag();
        thereIsNoNinthShift();
        mode2TakesTheLineAsItIsThen();
        mode6TurnsTheBitsRound();
        shiftsStayToCome();
        modesChangeBetweenShifts();
        wayFiveIsOver();
        wayFiveIsOverInAnotherWay();
        wayFourGoesOn();
        theAnswerHas128();
        Check.end();
    }

    private static PortTimers withTimer1(int control, int latch) {
        PortTimers x = new PortTimers();
        x.write(11, control);
        x.write(4, latch & 255);
        x.write(5, latch >> 8);
        return x;
    }

    /** "So many cycles": n = 0 */
    private static void noCyclesChangeNothing() {
        for (int i = 0; i < States.ALL.size(); i++) {
            PortTimers x = States.ALL.get(i).get();
            Check.due("step(0), state " + i, x.step(0), x.read(13));
            Check.due("all behind step(0), state " + i, Check.whole(x),
                    Check.whole(States.ALL.get(i).get()));
        }
    }

    /** "So many cycles": n = 200000 */
    private static void mostCyclesAreAllDone() {
        PortTimers x = new PortTimers();
        x.write(9, 255);
        x.step(200000);
        Check.due("cycles", x.told(6), 200000);
        Check.due("timer 1", x.told(0), 4 * 65536 - 200000);
        Check.due("timer 2", x.told(1), 65280 + 3 * 65536 - 200000);
        x = withTimer1(64, 199);
        x.step(200000);
        // It runs out first behind 200 cycles, and then each 201 cycles: 995 times in all.
        Check.due("timer's bit, running freely", x.told(4), 1);
        Check.due("timer 1, running freely", x.told(0), 200 - (200000 - 200) % 201);
    }

    private static PortTimers busy(int kind) {
        PortTimers x = withTimer1(kind % 2 == 0 ? 24 + 64 : 8, 3 * kind);
        x.write(8, kind);
        x.write(9, 0);
        x.write(10, 0xC5);
        x.line(3, true);
        x.write(12, 0xAA);
        x.write(1, 0);
        x.write(0, 0);
        return x;
    }

    /** A step of many cycles ends where as many steps of one cycle do. */
    private static void manyCyclesAreAsOneByOne() {
        for (int kind = 0; kind < 6; kind++) {
            for (int n = 0; n <= 60; n++) {
                PortTimers oneByOne = busy(kind);
                for (int i = 0; i < n; i++) {
                    oneByOne.step(1);
                }
                PortTimers atOnce = busy(kind);
                atOnce.step(n);
                Check.due("step(" + n + "), kind " + kind, Check.whole(atOnce), Check.whole(oneByOne));
            }
        }
    }

    /** "Else it is 1 less (65535 behind 0: it RUNS OUT)" */
    private static void timer1RunsOutBehindZero() {
        int[] controls = {0, 64};
        for (int control : controls) {
            PortTimers x = withTimer1(control, 1);
            Check.due("from 1", x.step(1), 0);
            Check.due("timer 1, 0", x.told(0), 0);
            Check.due("timer's bit at 0", x.told(4), 0);
            Check.due("from 0", x.step(1), 64);
            Check.due("timer 1, ran out", x.told(0), 65535);
            Check.due("timer's bit, ran out", x.told(4), 1);
        }
    }

    /** "it becomes its latch": in a cycle of its own, as the latch is then */
    private static void timer1BecomesItsLatch() {
        PortTimers x = withTimer1(64, 0);
        x.step(1);
        x.write(6, 2);
        Check.due("timer 1, before that cycle", x.told(0), 65535);
        x.step(1);
        Check.due("timer 1, behind it", x.told(0), 2);
        x.write(6, 9);
        x.step(3);
        Check.due("timer 1, ran out again", x.told(0), 65535);
        x.step(1);
        Check.due("timer 1, the later latch", x.told(0), 9);
    }

    private static void timer1BecomesALatchOfTheEnds() {
        PortTimers x = withTimer1(64, 0);
        for (int i = 0; i < 4; i++) {
            Check.due("latch 0, runs out", x.step(1), 64);
            Check.due("latch 0, timer 1 ran out", x.told(0), 65535);
            Check.due("latch 0, timer's bit", x.told(4), 1 - i % 2);
            x.write(13, 64);
            Check.due("latch 0, the latch's cycle", x.step(1), 0);
            Check.due("latch 0, timer 1", x.told(0), 0);
        }
        x = withTimer1(64, 65535);
        Check.due("latch 65535, all but one", x.step(65535), 0);
        Check.due("latch 65535, runs out", x.step(1), 64);
        x.write(13, 64);
        Check.due("latch 65535, the latch's cycle", x.step(1), 0);
        Check.due("latch 65535, timer 1", x.told(0), 65535);
        Check.due("latch 65535, that was no run out", x.step(1), 0);
        Check.due("latch 65535, timer 1 goes on", x.told(0), 65534);
        Check.due("latch 65535, runs out again", x.step(65535), 64);
        Check.due("latch 65535, timer's bit", x.told(4), 0);
    }

    /** "control bit 6 being 1 then and now" */
    private static void timer1NeedsTheBitThenAndNow() {
        int[] bits = {0, 64};
        for (int then : bits) {
            for (int now : bits) {
                PortTimers x = withTimer1(then, 5);
                x.step(6);
                x.write(11, now);
                x.step(1);
                boolean latch = then == 64 && now == 64;
                Check.due("timer 1, " + then + " then, " + now + " now", x.told(0), latch ? 5 : 65534);
            }
        }
        PortTimers x = withTimer1(64, 5);
        x.step(6);
        x.write(11, 0);
        x.write(11, 64);
        x.step(1);
        Check.due("timer 1, the bit is 0 between", x.told(0), 5);
    }

    /** "if it ran out in the cycle before" */
    private static void timer1NeedsTheCycleBefore() {
        PortTimers x = withTimer1(64, 5);
        x.step(6);
        x.write(11, 0);
        x.step(1);
        x.write(11, 64);
        x.step(1);
        Check.due("timer 1, a cycle between", x.told(0), 65533);
        Check.due("all the way down", x.step(65533), 64);
        Check.due("timer 1, at 0", x.told(0), 0);
        x.write(13, 64);
        Check.due("runs out", x.step(1), 64);
        x.step(1);
        Check.due("timer 1, the latch again", x.told(0), 5);
    }

    /** "If it runs out, and control bit 6 is 1: flag 6 is 1, the timer's bit is turned" */
    private static void timer1RunsFreelyThoughNotArmed() {
        PortTimers x = withTimer1(0, 0);
        x.step(1);
        x.write(13, 64);
        Check.due("armed no more", x.told(5), 0);
        x.write(11, 64);
        Check.due("all the way down", x.step(65535), 0);
        Check.due("runs out", x.step(1), 64);
        Check.due("timer's bit is turned", x.told(4), 0);
        Check.due("not armed by that", x.told(5), 0);
    }

    /** "and it is armed: flag 6 is 1, the timer's bit is 1, it is armed no more" */
    private static void timer1IsArmedNoMore() {
        PortTimers x = withTimer1(0, 0);
        Check.due("armed", x.told(5), 1);
        Check.due("runs out", x.step(1), 64);
        Check.due("armed no more", x.told(5), 0);
        x.write(13, 64);
        Check.due("a whole round", x.step(65536), 0);
        Check.due("timer 1 ran out again", x.told(0), 65535);
        Check.due("timer's bit stays 1", x.told(4), 1);
    }

    /** A free run leaves it armed, so that it runs out once more when the bit is 0. */
    private static void timer1SwitchesFromFreeToOnce() {
        PortTimers x = withTimer1(64, 0);
        x.step(3);
        x.write(13, 64);
        x.write(11, 0);
        Check.due("timer's bit, turned twice", x.told(4), 0);
        Check.due("armed still", x.told(5), 1);
        Check.due("all the way down", x.step(65535), 0);
        Check.due("runs out", x.step(1), 64);
        Check.due("timer's bit is 1", x.told(4), 1);
        Check.due("armed no more", x.told(5), 0);
    }

    /** "control bit 6" for timer 1, "control bit 5" for timer 2, and no other one */
    private static void otherControlBitsDoNotCount() {
        for (int bit = 1; bit < 256; bit <<= 1) {
            PortTimers x = withTimer1(bit, 5);
            x.write(9, 0);
            x.step(7);
            Check.due("timer 1, control " + bit, x.told(0), bit == 64 ? 5 : 65534);
            Check.due("timer 2, control " + bit, x.told(1), bit == 32 ? 0 : 65529);
        }
    }

    /** "Timer 2, if control bit 5 is 0: it is 1 less; if it runs out so" */
    private static void timer2RunsOutBehindZero() {
        PortTimers x = new PortTimers();
        x.write(8, 1);
        x.write(9, 0);
        Check.due("from 1", x.step(1), 0);
        Check.due("timer 2, 0", x.told(1), 0);
        Check.due("from 0", x.step(1), 32);
        Check.due("timer 2, ran out", x.told(1), 65535);
    }

    /** "and is armed: flag 5 is 1, it is armed no more" */
    private static void timer2IsArmedNoMore() {
        PortTimers x = new PortTimers();
        Check.due("never armed", x.step(1), 0);
        x.write(9, 0);
        Check.due("armed", x.told(5), 2);
        Check.due("runs out", x.step(1), 32);
        Check.due("armed no more", x.told(5), 0);
        x.write(13, 32);
        Check.due("a whole round", x.step(65536), 0);
        Check.due("timer 2 ran out again", x.told(1), 65535);
    }

    /** Control bit 6 is timer 1's alone: timer 2 never becomes its latch by itself. */
    private static void timer2HasNoFreeRun() {
        PortTimers x = new PortTimers();
        x.write(11, 64);
        x.write(8, 7);
        x.write(9, 0);
        x.step(8);
        Check.due("timer 2, ran out", x.told(1), 65535);
        x.step(1);
        Check.due("timer 2, goes on", x.told(1), 65534);
    }

    private static PortTimers shifting(int mode, int bits) {
        PortTimers x = new PortTimers();
        x.write(11, mode << 2);
        x.write(10, bits);
        return x;
    }

    /** "with each second cycle one is done" */
    private static void theShifterNeedsEachSecondCycle() {
        int[] modes = {2, 6};
        for (int mode : modes) {
            PortTimers x = shifting(mode, 0xFF);
            for (int cycle = 1; cycle <= 16; cycle++) {
                x.step(1);
                Check.due("to come, cycle " + cycle, x.told(3), 8 - cycle / 2);
            }
        }
    }

    /** "With the eighth: flag 2 is 1" */
    private static void theEighthShiftSetsTheFlag() {
        int[] modes = {2, 6};
        for (int mode : modes) {
            PortTimers x = shifting(mode, 0xFF);
            x.write(14, 0x84);
            Check.due("seven shifts", x.step(14), 0);
            Check.due("seven and a half", x.step(1), 0);
            Check.due("the eighth", x.step(1), 128 + 4);
            Check.due("none to come", x.told(3), 0);
        }
    }

    /** "if shifts are to come" */
    private static void thereIsNoNinthShift() {
        PortTimers x = shifting(6, 0x7F);
        x.step(16);
        Check.due("CB2, the eighth bit", x.out(3), 1);
        x.write(13, 4);
        Check.due("two cycles more", x.step(2), 0);
        Check.due("CB2, no ninth bit", x.out(3), 1);
        Check.due("200000 cycles more", x.step(200000), 0);
        Check.due("none to come", x.told(3), 0);
        Check.due("the bits", x.read(10), 0x7F);
    }

    /** "below comes, in mode 2, line CB2" */
    private static void mode2TakesTheLineAsItIsThen() {
        int[] ways = {0x00, 0x60, 0x80, 0xC0, 0xE0};
        for (int w : ways) {
            PortTimers x = shifting(2, 0);
            x.write(12, w);
            x.line(3, true);
            x.step(1);
            x.line(3, false);
            x.step(2);
            x.line(3, true);
            x.step(1);
            Check.due("two shifts, ways " + w, x.read(10), 1);
            x.step(16);
            Check.due("full of ones, ways " + w, x.read(10), 255);
            x.line(3, false);
            x.step(16);
            Check.due("empty again, ways " + w, x.read(10), 0);
        }
    }

    /** "in mode 6 the bit that went out above, which CB2 gives from then on" */
    private static void mode6TurnsTheBitsRound() {
        int[] bytes = {0, 1, 0x80, 0x7F, 0xFE, 0xFF, 0xA5};
        for (int v : bytes) {
            PortTimers x = shifting(6, v);
            x.line(3, v % 2 == 0);
            for (int i = 0; i < 8; i++) {
                x.step(2);
                Check.due("CB2 of " + v + ", shift " + i, x.out(3), v >> 7 - i & 1);
            }
            Check.due("all round of " + v, x.read(10), v);
        }
    }

    /** "In other modes what is to come stays to come, and no cycles count for it" */
    private static void shiftsStayToCome() {
        int[] others = {0, 1, 3, 4, 5, 7};
        for (int mode : others) {
            PortTimers x = shifting(6, 0x80);
            x.step(1);
            x.write(11, mode << 2);
            Check.due("step(200000), mode " + mode, x.step(200000) & 4, 0);
            Check.due("to come, mode " + mode, x.told(3), 8);
            x.write(11, 24);
            x.step(1);
            Check.due("to come, its second cycle in mode 6", x.told(3), 7);
            Check.due("CB2", x.out(3), 1);
            PortTimers y = shifting(mode, 0x80);
            y.step(5);
            y.write(11, 8);
            y.step(1);
            Check.due("to come, one cycle in mode 2", y.told(3), 8);
            y.step(1);
            Check.due("to come, two cycles in mode 2", y.told(3), 7);
        }
    }

    private static void modesChangeBetweenShifts() {
        PortTimers x = shifting(6, 0x40);
        x.line(3, true);
        x.step(3);
        x.write(11, 8);
        x.step(1);
        Check.due("to come, a cycle of each mode", x.told(3), 6);
        x.write(11, 24);
        Check.due("CB2, what mode 6 gave, not what went out in mode 2", x.out(3), 0);
        x.step(12);
        Check.due("flags", x.read(13), 4);
        Check.due("the bits", x.read(10), 0x40);
    }

    /** "What way 5 gave is over" */
    private static void wayFiveIsOver() {
        int[] counts = {1, 2, 200000};
        for (int n : counts) {
            PortTimers x = new PortTimers();
            x.write(12, 0xAA);
            x.read(1);
            x.write(0, 0);
            Check.due("CA2, way 5 gives", x.out(2), 0);
            Check.due("CB2, way 5 gives", x.out(3), 0);
            x.step(0);
            Check.due("CA2, no cycle", x.out(2), 0);
            Check.due("CB2, no cycle", x.out(3), 0);
            x.step(n);
            Check.due("CA2, " + n + " cycles", x.out(2), 1);
            Check.due("CB2, " + n + " cycles", x.out(3), 1);
        }
    }

    private static void wayFiveIsOverInAnotherWay() {
        for (int way = 0; way < 8; way++) {
            PortTimers x = new PortTimers();
            x.write(12, 0xAA);
            x.write(1, 0);
            x.write(0, 0);
            x.write(12, way << 5 | way << 1);
            x.step(1);
            x.write(12, 0xAA);
            Check.due("CA2, a cycle in way " + way, x.out(2), 1);
            Check.due("CB2, a cycle in way " + way, x.out(3), 1);
        }
    }

    private static void wayFourGoesOn() {
        PortTimers x = States.wayFourGives();
        x.step(1);
        Check.due("CA2, a cycle", x.out(2), 0);
        Check.due("CB2, a cycle", x.out(3), 0);
        x.step(200000);
        Check.due("CA2, most cycles", x.out(2), 0);
        Check.due("CB2, most cycles", x.out(3), 0);
    }

    /** "Answers the flags as they are then, and 128 as register 13" */
    private static void theAnswerHas128() {
        PortTimers x = States.runOutIsNext();
        x.write(14, 0x20);
        Check.due("before", x.step(0), 0);
        Check.due("both ran out, flag 6 enabled", x.step(1), 128 + 96);
        x.write(13, 64);
        Check.due("flag 5 is not enabled", x.step(0), 32);
        Check.due("the same by 13", x.read(13), 32);
    }
}
