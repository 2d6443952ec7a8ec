/** Promise 7: out. */
public final class Promise7OutTest {
    public static void main(String[] args) {
        portsGiveTheirOutputs();
        theTimersBitComesOut();
        wayFourGivesUntilTheEdge();
        waysKeepWhatTheyGave();
        fixedWays();
        cb2GivesWhatTheShifterGives();
        theWayOfTheOtherLineDoesNotMatter();
        theProcessorIsCalled();
        Check.end();
    }

    private static void portsGiveTheirOutputs() {
        PortTimers x = new PortTimers();
        x.pins(255, 255);
        x.write(1, 0xA5);
        x.write(0, 0x5A);
        Check.due("port A, no outputs", x.out(0), 0);
        Check.due("port B, no outputs", x.out(1), 0);
        x.write(3, 0xF0);
        x.write(2, 0x3C);
        Check.due("port A", x.out(0), 0xA0);
        Check.due("port B", x.out(1), 0x18);
    }

    private static void theTimersBitComesOut() {
        PortTimers x = new PortTimers();
        x.write(11, 128);
        Check.due("port B, its pin is no output", x.out(1), 0);
        x.write(2, 0xFF);
        Check.due("port B, the bit is 1", x.out(1), 128);
        x.write(0, 0xFF);
        x.write(5, 1);
        Check.due("port B, the bit is 0", x.out(1), 127);
        x.write(3, 0xFF);
        Check.due("port A", x.out(0), 0);
        x.write(11, 0);
        Check.due("port B, control bit 7 is 0", x.out(1), 255);
    }

    private static void wayFourGivesUntilTheEdge() {
        PortTimers x = new PortTimers();
        x.write(12, 0x88);
        x.write(1, 0);
        x.write(0, 0);
        x.line(0, true);
        x.line(2, true);
        Check.due("CA2, no active edge", x.out(2), 0);
        Check.due("CB2, no active edge", x.out(3), 0);
        x.line(0, false);
        Check.due("CA2, CA1's edge", x.out(2), 1);
        Check.due("CB2, CA1's edge", x.out(3), 0);
        x.read(1);
        x.line(2, false);
        Check.due("CA2, CB1's edge", x.out(2), 0);
        Check.due("CB2, CB1's edge", x.out(3), 1);
    }

    private static void waysKeepWhatTheyGave() {
        PortTimers x = new PortTimers();
        x.write(12, 0x88);
        x.write(1, 0);
        x.write(0, 0);
        for (int way = 0; way < 8; way++) {
            x.write(12, way << 5 | way << 1);
            int[] gives = {2, 2, 2, 2, 0, 1, 0, 1};
            Check.due("CA2, way 4 gave, way " + way, x.out(2), gives[way]);
            Check.due("CB2, way 4 gave, way " + way, x.out(3), gives[way]);
        }
        Check.fall(x, 0);
        Check.fall(x, 2);
        x.write(12, 0x88);
        Check.due("CA2, the edge in another way", x.out(2), 1);
        Check.due("CB2, the edge in another way", x.out(3), 1);
        x.write(12, 0xAA);
        x.write(1, 0);
        x.write(0, 0);
        for (int way = 0; way < 8; way++) {
            x.write(12, way << 5 | way << 1);
            int[] gives = {2, 2, 2, 2, 1, 0, 0, 1};
            Check.due("CA2, way 5 gave, way " + way, x.out(2), gives[way]);
            Check.due("CB2, way 5 gave, way " + way, x.out(3), gives[way]);
        }
    }

    private static void fixedWays() {
        PortTimers x = new PortTimers();
        x.write(12, 0xEC);
        Check.due("CA2, way 6", x.out(2), 0);
        Check.due("CB2, way 7", x.out(3), 1);
        x.write(12, 0xCE);
        Check.due("CA2, way 7", x.out(2), 1);
        Check.due("CB2, way 6", x.out(3), 0);
    }

    private static void cb2GivesWhatTheShifterGives() {
        PortTimers x = new PortTimers();
        x.write(11, 24);
        x.write(10, 0);
        x.step(2);
        for (int mode = 0; mode < 8; mode++) {
            x.write(11, mode << 2);
            for (int way = 0; way < 8; way++) {
                x.write(12, way << 5 | way << 1);
                int[] gives = {2, 2, 2, 2, 1, 1, 0, 1};
                int want = mode == 6 && way < 4 ? 0 : gives[way];
                Check.due("CB2, mode " + mode + ", way " + way, x.out(3), want);
                Check.due("CA2, mode " + mode + ", way " + way, x.out(2), gives[way]);
            }
        }
    }

    private static void theWayOfTheOtherLineDoesNotMatter() {
        PortTimers x = new PortTimers();
        x.write(11, 24);
        x.write(12, 0x0C);
        Check.due("CB2 in mode 6, CA2 an output", x.out(3), 1);
        x.write(12, 0xC0);
        Check.due("CB2 an output of 0, CA2 none", x.out(3), 0);
        Check.due("CA2, CB2 an output", x.out(2), 2);
    }

    private static void theProcessorIsCalled() {
        PortTimers x = new PortTimers();
        x.write(14, 0x88);
        Check.due("no flag", x.out(4), 0);
        Check.fall(x, 2);
        Check.due("a flag that is not enabled", x.out(4), 0);
        Check.fall(x, 3);
        Check.due("a flag that is enabled", x.out(4), 1);
        x.write(14, 8);
        Check.due("no more enabled", x.out(4), 0);
    }
}
