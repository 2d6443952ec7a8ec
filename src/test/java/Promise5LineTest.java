/** Promise 5: line. */
public final class Promise5LineTest {
    private static final int[] FLAG = {2, 1, 16, 8};

    public static void main(String[] args) {
        firstLinesHaveTheirEdge();
        secondLinesHaveTheirEdge();
        noEdgeWithoutAChange();
        aLineMovesThoughItIsAnOutput();
        theOtherWaysBitsDoNotMatter();
        cb2HasEdgesInMode6();
        Check.end();
    }

    private static void edgesAre(String name, int which, int ways, boolean rise, boolean fall) {
        PortTimers x = new PortTimers();
        x.write(12, ways);
        Check.due(name + " rises", x.line(which, true), rise);
        Check.due(name + ", flags behind that", x.read(13), rise ? FLAG[which] : 0);
        x.write(13, 127);
        Check.due(name + " falls", x.line(which, false), fall);
        Check.due(name + ", flags behind the fall", x.read(13), fall ? FLAG[which] : 0);
    }

    private static void firstLinesHaveTheirEdge() {
        edgesAre("CA1, way 0", 0, 0, false, true);
        edgesAre("CA1, way 1", 0, 1, true, false);
        edgesAre("CB1, way 0", 2, 0, false, true);
        edgesAre("CB1, way 1", 2, 16, true, false);
    }

    private static void secondLinesHaveTheirEdge() {
        for (int way = 0; way < 8; way++) {
            boolean rise = way == 2 || way == 3;
            boolean fall = way == 0 || way == 1;
            edgesAre("CA2, way " + way, 1, way << 1, rise, fall);
            edgesAre("CB2, way " + way, 3, way << 5, rise, fall);
        }
    }

    private static void noEdgeWithoutAChange() {
        int[] ways = {0, 0x55};
        for (int w : ways) {
            PortTimers x = new PortTimers();
            x.write(12, w);
            for (int which = 0; which < 4; which++) {
                Check.due("stays 0", x.line(which, false), false);
                x.line(which, true);
                x.write(13, 127);
                Check.due("stays 1", x.line(which, true), false);
                Check.due("flags", x.read(13), 0);
            }
        }
    }

    private static void aLineMovesThoughItIsAnOutput() {
        PortTimers x = new PortTimers();
        x.write(12, 0xEE);
        Check.due("CA2, an output", x.line(1, true), false);
        Check.due("CB2, an output", x.line(3, true), false);
        x.write(12, 0);
        Check.due("no flag by the ways alone", x.read(13), 0);
        Check.due("CA2 falls", x.line(1, false), true);
        Check.due("CB2 falls", x.line(3, false), true);
    }

    private static void theOtherWaysBitsDoNotMatter() {
        edgesAre("CA1, all other bits 1", 0, 0xFE, false, true);
        edgesAre("CB1, all other bits 1", 2, 0xEF, false, true);
        edgesAre("CA2, all other bits 1", 1, 0xF1, false, true);
        edgesAre("CB2, all other bits 1", 3, 0x1F, false, true);
    }

    private static void cb2HasEdgesInMode6() {
        PortTimers x = new PortTimers();
        x.write(11, 24);
        Check.due("CB2 falls in mode 6", Check.fall(x, 3), true);
        Check.due("flags", x.read(13), 8);
    }
}
