/** Promise 8, sentence by sentence: the insides at their edges. */
public final class Edges8ToldTest {
    public static void main(String[] args) {
        timersAtTheirEnds();
        theLatchIsNotTheTimer();
        shiftsToCome();
        theTimersBit();
        theFourWaysOfBeingArmed();
        cyclesAreAnInt();
        cyclesOfAllKindsCount();
        toldChangesNothing();
        Check.end();
    }

    /** "timer 1 (what = 0), timer 2 (1)": words, from 65535 to 0 and round */
    private static void timersAtTheirEnds() {
        PortTimers x = new PortTimers();
        x.write(4, 255);
        x.write(5, 255);
        x.write(8, 255);
        x.write(9, 255);
        Check.due("timer 1, full", x.told(0), 65535);
        Check.due("timer 2, full", x.told(1), 65535);
        x.step(65535);
        Check.due("timer 1, empty", x.told(0), 0);
        Check.due("timer 2, empty", x.told(1), 0);
        x.step(1);
        Check.due("timer 1, round", x.told(0), 65535);
        Check.due("timer 2, round", x.told(1), 65535);
    }

    /** "timer 1's latch (2)" */
    private static void theLatchIsNotTheTimer() {
        PortTimers x = new PortTimers();
        x.write(4, 0xFF);
        x.write(5, 0xFF);
        x.step(1000);
        Check.due("latch, the timer goes on", x.told(2), 65535);
        x.write(6, 0);
        x.write(7, 0);
        Check.due("latch, empty", x.told(2), 0);
        Check.due("timer 1", x.told(0), 64535);
        x.write(8, 0x12);
        x.write(9, 0x34);
        Check.due("latch, timer 2 written", x.told(2), 0);
    }

    /** "shifts to come (3)": 0 to 8 */
    private static void shiftsToCome() {
        PortTimers x = new PortTimers();
        Check.due("at first", x.told(3), 0);
        x.read(10);
        Check.due("10 read", x.told(3), 8);
        x.read(10);
        Check.due("10 read twice", x.told(3), 8);
        x.write(11, 8);
        for (int left = 7; left >= 0; left--) {
            x.step(2);
            Check.due("shifts left", x.told(3), left);
        }
        x.step(2);
        Check.due("never below 0", x.told(3), 0);
    }

    /** "the timer's bit (4)": whatever control bit 7 is */
    private static void theTimersBit() {
        int[] controls = {0, 128, 64, 192};
        for (int control : controls) {
            PortTimers x = new PortTimers();
            x.write(11, control);
            Check.due("at first", x.told(4), 1);
            x.write(5, 0);
            Check.due("written by 5", x.told(4), 0);
            x.step(1);
            Check.due("ran out", x.told(4), 1);
            x.step(2);
            Check.due("two cycles more", x.told(4), (control & 64) == 0 ? 1 : 0);
        }
    }

    /** "1 if timer 1 is armed, and 2 if timer 2 is (5)" */
    private static void theFourWaysOfBeingArmed() {
        PortTimers x = new PortTimers();
        Check.due("none", x.told(5), 0);
        x.write(9, 0);
        Check.due("timer 2", x.told(5), 2);
        x.write(5, 9);
        Check.due("both", x.told(5), 3);
        x.step(1);
        Check.due("timer 1", x.told(5), 1);
        x.write(11, 64);
        x.step(200000);
        Check.due("timer 1, running freely", x.told(5), 1);
    }

    /** "how many cycles were done, as an int (6)" */
    private static void cyclesAreAnInt() {
        PortTimers x = new PortTimers();
        Check.due("none", x.told(6), 0);
        x.step(0);
        Check.due("none by step(0)", x.told(6), 0);
        x.step(1);
        Check.due("one", x.told(6), 1);
        for (int i = 0; i < 500; i++) {
            x.step(200000);
        }
        Check.due("a hundred million and one", x.told(6), 100000001);
    }

    /** Cycles count whatever the parts do with them, and nothing else counts. */
    private static void cyclesOfAllKindsCount() {
        PortTimers x = new PortTimers();
        for (int control = 0; control < 64; control++) {
            x.write(11, control << 2);
            x.step(3);
            x.pins(64, 64);
            x.pins(0, 0);
            x.read(4);
        }
        Check.due("cycles", x.told(6), 192);
    }

    private static void toldChangesNothing() {
        for (int i = 0; i < States.ALL.size(); i++) {
            PortTimers x = States.ALL.get(i).get();
            for (int what = 0; what <= 6; what++) {
                Check.due("told(" + what + ") twice", x.told(what), x.told(what));
            }
            Check.due("all behind told, state " + i, Check.whole(x), Check.whole(States.ALL.get(i).get()));
        }
    }
}
