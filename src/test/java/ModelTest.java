import java.util.List;
import java.util.Random;
import java.util.function.Consumer;

/** Many runs of calls, the same ones each time, held against the plain model. */
public final class ModelTest {
    private static final int RUNS = 10000;
    // Each round makes up to four calls, and an object is good for 512.
    private static final int ROUNDS = 125;

    public static void main(String[] args) {
        for (int run = 0; run < RUNS; run++) {
            oneRun(run);
        }
        Check.end();
    }

    private static void oneRun(int run) {
        Random random = new Random(run);
        PortTimers x = new PortTimers();
        PlainModel model = new PlainModel();
        for (int i = 0; i < ROUNDS; i++) {
            oneRound(run, random, x, model);
            int what = random.nextInt(7);
            Check.due("run " + run + ": told(" + what + ")", x.told(what), model.told(what));
            int port = random.nextInt(5);
            Check.due("run " + run + ": out(" + port + ")", x.out(port), model.out(port));
        }
    }

    private static void oneRound(int run, Random random, PortTimers x, PlainModel model) {
        int register = random.nextInt(16);
        int v = value(random, register);
        switch (random.nextInt(13)) {
            case 0: case 1: case 2: case 3:
                x.write(register, v);
                model.write(register, v);
                break;
            case 4: case 5: case 6:
                Check.due("run " + run + ": read(" + register + ")", x.read(register), model.read(register));
                break;
            case 7:
                int a = random.nextInt(256);
                x.pins(a, v);
                model.pins(a, v);
                break;
            case 8: case 9:
                int which = random.nextInt(4);
                boolean level = random.nextBoolean();
                Check.due("run " + run + ": line(" + which + ", " + level + ")",
                        x.line(which, level), model.line(which, level));
                break;
            case 10: case 11:
                int n = cycles(random);
                Check.due("run " + run + ": step(" + n + ")", x.step(n), model.step(n));
                break;
            default:
                // The model knows nothing of it, for it must change nothing.
                refusedCall(run, random, x, register, v);
                break;
        }
        if (random.nextInt(200) == 0) {
            x.reset();
            model.reset();
        }
    }

    private static void refusedCall(int run, Random random, PortTimers x, int register, int v) {
        int[] kinds = {1, 16, 256, 200001, Integer.MAX_VALUE};
        int far = kinds[random.nextInt(kinds.length)];
        int tooMuch = random.nextBoolean() ? -far : Math.max(far, 256);
        List<Consumer<PortTimers>> calls = List.of(
                y -> y.write(tooMuch, v), y -> y.write(register, tooMuch), y -> y.read(tooMuch),
                y -> y.pins(tooMuch, v), y -> y.pins(v, tooMuch), y -> y.line(tooMuch, v > 127),
                y -> y.step(tooMuch < 0 ? tooMuch : 200001), y -> y.out(tooMuch), y -> y.told(tooMuch));
        int which = random.nextInt(calls.size());
        String thrown = Check.thrownBy(x, calls.get(which));
        Check.due("run " + run + ": refused call " + which + " with " + tooMuch + " throws", thrown,
                "java.lang.IllegalArgumentException");
    }

    /** High bytes are mostly 0, so that timers run out often. */
    private static int value(Random random, int register) {
        boolean high = register == 5 || register == 7 || register == 9;
        boolean low = register == 4 || register == 6 || register == 8;
        if (high && random.nextInt(4) != 0) {
            return 0;
        }
        if (low && random.nextBoolean()) {
            return random.nextInt(6);
        }
        if (register == 11 && random.nextBoolean()) {
            // The modes that shift are rare among all modes.
            return random.nextInt(256) & ~0x1C | (random.nextBoolean() ? 8 : 24);
        }
        return random.nextInt(256);
    }

    private static int cycles(Random random) {
        int kind = random.nextInt(100);
        if (kind == 0) {
            return random.nextInt(200001);
        }
        return kind < 10 ? random.nextInt(1000) : random.nextInt(6);
    }
}
