/** Promise 5, sentence by sentence: each line's way, its edge, and what the edge does. */
public final class Edges5LineTest {
    private static final String[] NAME = {"CA1", "CA2", "CB1", "CB2"};
    private static final int[] FLAG = {2, 1, 16, 8};

    public static void main(String[] args) {
        eachLineWithAllWays();
        aLineThatStaysHasNoEdge();
        anEdgeWithTheFlagSet();
        waysThatChangeMakeNoEdge();
        outputsHaveNoEdge();
        outputsKeepTheWorldsLevel();
        edgesLeaveOtherLinesAlone();
        anEdgeEndsWhatWayFourGave();
        noEdgeEndsNothing();
        edgesCallTheProcessor();
        edgesNeedNoCycles();
        Check.end();
    }

    /** 1: from 0 to 1, -1: from 1 to 0, 0: none. */
    private static int activeEdge(int which, int ways) {
        if (which % 2 == 0) {
            return (which == 0 ? ways & 1 : ways >> 4 & 1) == 1 ? 1 : -1;
        }
        int way = which == 1 ? ways >> 1 & 7 : ways >> 5;
        int[] edges = {-1, -1, 1, 1, 0, 0, 0, 0};
        return edges[way];
    }

    /** "Answers whether that was an active edge", for all 256 ways of all lines */
    private static void eachLineWithAllWays() {
        for (int ways = 0; ways < 256; ways++) {
            PortTimers x = new PortTimers();
            x.write(12, ways);
            for (int which = 0; which < 4; which++) {
                String name = NAME[which] + ", ways " + ways;
                int edge = activeEdge(which, ways);
                Check.due(name + " rises", x.line(which, true), edge == 1);
                Check.due(name + ", flags", x.read(13), edge == 1 ? FLAG[which] : 0);
                x.write(13, 127);
                Check.due(name + " falls", x.line(which, false), edge == -1);
                Check.due(name + ", flags", x.read(13), edge == -1 ? FLAG[which] : 0);
                x.write(13, 127);
            }
        }
    }

    private static void aLineThatStaysHasNoEdge() {
        int[] ways = {0x00, 0x22, 0x55, 0x77, 0xFF};
        for (int w : ways) {
            for (int which = 0; which < 4; which++) {
                PortTimers x = new PortTimers();
                x.write(12, w);
                Check.due(NAME[which] + " stays 0", x.line(which, false), false);
                x.line(which, true);
                x.write(13, 127);
                Check.due(NAME[which] + " stays 1", x.line(which, true), false);
                Check.due(NAME[which] + ", flags", x.read(13), 0);
            }
        }
    }

    private static void anEdgeWithTheFlagSet() {
        for (int which = 0; which < 4; which++) {
            PortTimers x = new PortTimers();
            Check.due(NAME[which], Check.fall(x, which), true);
            Check.due(NAME[which] + " again", Check.fall(x, which), true);
            Check.due(NAME[which] + ", flags", x.read(13), FLAG[which]);
        }
    }

    /** A line's edge is the world's: a new way is none, and counts from the next edge on. */
    private static void waysThatChangeMakeNoEdge() {
        PortTimers x = new PortTimers();
        for (int which = 0; which < 4; which++) {
            x.line(which, true);
        }
        x.write(12, 0x55);
        x.write(12, 0x00);
        Check.due("flags", x.read(13), 0);
        x.write(12, 0x55);
        for (int which = 0; which < 4; which++) {
            Check.due(NAME[which] + " falls", x.line(which, false), false);
            Check.due(NAME[which] + " rises", x.line(which, true), true);
        }
    }

    /** "(of CA2 and CB2 as long as they are no outputs)" */
    private static void outputsHaveNoEdge() {
        for (int way = 4; way < 8; way++) {
            PortTimers x = new PortTimers();
            x.write(12, way << 5 | way << 1);
            int[] lines = {1, 3};
            for (int which : lines) {
                Check.due(NAME[which] + " rises, way " + way, x.line(which, true), false);
                Check.due(NAME[which] + " falls, way " + way, x.line(which, false), false);
            }
            Check.due("flags, way " + way, x.read(13), 0);
        }
    }

    private static void outputsKeepTheWorldsLevel() {
        for (int way = 4; way < 8; way++) {
            PortTimers x = new PortTimers();
            x.write(12, way << 5 | way << 1);
            x.line(1, true);
            x.line(3, true);
            x.write(12, 0);
            Check.due("CA2 was 1, way " + way, x.line(1, false), true);
            Check.due("CB2 was 1, way " + way, x.line(3, false), true);
            x.write(12, way << 5 | way << 1);
            x.line(1, true);
            x.line(1, false);
            x.write(12, 0x44);
            Check.due("CA2 was 0, way " + way, x.line(1, true), true);
        }
    }

    private static void edgesLeaveOtherLinesAlone() {
        for (int which = 0; which < 4; which++) {
            PortTimers x = new PortTimers();
            Check.fall(x, which);
            for (int other = 0; other < 4; other++) {
                Check.due(NAME[other] + " is 0 still", x.line(other, false), false);
            }
            Check.due("flags, " + NAME[which], x.read(13), FLAG[which]);
        }
    }

    /** "with way 4 CA2 gives 0 until CA1's next active edge"; "CB2 likewise, until CB1's" */
    private static void anEdgeEndsWhatWayFourGave() {
        int[] firstWays = {0x00, 0x11};
        for (int first : firstWays) {
            for (int which = 0; which < 4; which++) {
                PortTimers x = new PortTimers();
                x.write(12, 0x88 | first);
                x.write(1, 0);
                x.write(0, 0);
                boolean rises = first != 0;
                x.line(which, true);
                Check.due("CA2, " + NAME[which] + " rose", x.out(2), rises && which == 0 ? 1 : 0);
                Check.due("CB2, " + NAME[which] + " rose", x.out(3), rises && which == 2 ? 1 : 0);
                x.line(which, false);
                Check.due("CA2, " + NAME[which] + " fell", x.out(2), which == 0 ? 1 : 0);
                Check.due("CB2, " + NAME[which] + " fell", x.out(3), which == 2 ? 1 : 0);
            }
        }
    }

    private static void noEdgeEndsNothing() {
        PortTimers x = States.wayFourGives();
        x.line(0, false);
        x.line(2, false);
        Check.due("CA2, CA1 stayed", x.out(2), 0);
        Check.due("CB2, CB1 stayed", x.out(3), 0);
        x = new PortTimers();
        x.write(12, 0x88);
        Check.fall(x, 0);
        x.write(1, 0);
        Check.due("CA2, the edge was before", x.out(2), 0);
    }

    private static void edgesCallTheProcessor() {
        for (int which = 0; which < 4; which++) {
            PortTimers x = new PortTimers();
            x.write(14, 128 | FLAG[which]);
            x.line(which, true);
            Check.due(NAME[which] + " rose", x.out(4), 0);
            x.line(which, false);
            Check.due(NAME[which] + " fell", x.out(4), 1);
        }
    }

    private static void edgesNeedNoCycles() {
        PortTimers x = new PortTimers();
        Check.fall(x, 0);
        Check.due("flags", x.read(13), 2);
        Check.due("cycles", x.told(6), 0);
        Check.due("step(200000), flags stay", x.step(200000), 2);
    }
}
