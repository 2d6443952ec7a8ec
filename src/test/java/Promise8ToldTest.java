/** Promise 8: told. */
public final class Promise8ToldTest {
    public static void main(String[] args) {
        theInsidesAreTold();
        whoIsArmedIsTold();
        cyclesAreCounted();
        Check.end();
    }

    private static void theInsidesAreTold() {
        PortTimers x = new PortTimers();
        x.write(4, 0xCD);
        x.write(5, 0xAB);
        x.write(8, 0x21);
        x.write(9, 0x43);
        x.write(11, 8);
        x.write(10, 0);
        x.step(7);
        int[] told = {0xABCD - 7, 0x4321 - 7, 0xABCD, 5, 0, 3, 7};
        for (int what = 0; what < told.length; what++) {
            Check.due("told(" + what + ")", x.told(what), told[what]);
            Check.due("told(" + what + ") again", x.told(what), told[what]);
        }
    }

    private static void whoIsArmedIsTold() {
        PortTimers x = new PortTimers();
        x.write(5, 0);
        Check.due("timer 1 armed", x.told(5), 1);
        x.write(9, 1);
        Check.due("both armed", x.told(5), 3);
        x.step(1);
        Check.due("timer 2 armed", x.told(5), 2);
        x.step(256);
        Check.due("none armed", x.told(5), 0);
    }

    private static void cyclesAreCounted() {
        PortTimers x = new PortTimers();
        for (int i = 1; i <= 400; i++) {
            x.step(200000);
        }
        Check.due("cycles", x.told(6), 80000000);
        x.step(0);
        Check.due("cycles, none more", x.told(6), 80000000);
        x.step(1);
        Check.due("cycles, one more", x.told(6), 80000001);
    }
}
