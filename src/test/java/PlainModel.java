/**
 * The document's words once more, one cycle after another and all in one place, so that the
 * class, which goes by many cycles at once, can be held against them.
 */
final class PlainModel {
    final int[] pins = new int[2];
    final boolean[] lines = new boolean[4];
    private int[] out;
    private int[] directions;
    private int[] held;
    private boolean[] gave4;
    private boolean[] gave5;
    private boolean[] flag;
    private boolean[] enabled;
    private int control;
    private int ways;
    private int timer1;
    private int latch1;
    private boolean armed1;
    private boolean ranOutFreely;
    private int timersBit;
    private int timer2;
    private int latch2;
    private boolean armed2;
    private int shifter;
    private int toCome;
    private int cyclesToShift;
    private int given;
    private int cycles;

    PlainModel() {
        reset();
    }

    void reset() {
        out = new int[2];
        directions = new int[2];
        held = new int[2];
        gave4 = new boolean[2];
        gave5 = new boolean[2];
        flag = new boolean[7];
        enabled = new boolean[7];
        control = 0;
        ways = 0;
        timer1 = 0;
        latch1 = 0;
        armed1 = false;
        ranOutFreely = false;
        timersBit = 1;
        timer2 = 0;
        latch2 = 0;
        armed2 = false;
        shifter = 0;
        toCome = 0;
        cyclesToShift = 2;
        given = 1;
        cycles = 0;
    }

    private boolean control(int bit) {
        return (control >> bit & 1) == 1;
    }

    private int mode() {
        return control / 4 % 8;
    }

    private int way(int side) {
        return side == 0 ? ways / 2 % 8 : ways / 32;
    }

    private int port(int side) {
        int value = 0;
        boolean holds = control(side) && flag[side == 0 ? 1 : 4];
        for (int bit = 0; bit < 8; bit++) {
            int from = holds ? held[side] : pins[side];
            if ((directions[side] >> bit & 1) == 1) {
                from = out[side];
            }
            int one = from >> bit & 1;
            if (side == 1 && bit == 7 && control(7)) {
                one = timersBit;
            }
            value += one << bit;
        }
        return value;
    }

    private void touch(int side, boolean gives) {
        flag[side == 0 ? 1 : 4] = false;
        if (way(side) != 1 && way(side) != 3) {
            flag[side == 0 ? 0 : 3] = false;
        }
        if (gives && way(side) == 4) {
            gave4[side] = true;
        }
        if (gives && way(side) == 5) {
            gave5[side] = true;
        }
    }

    private void shiftsToCome() {
        flag[2] = false;
        toCome = 8;
        cyclesToShift = 2;
    }

    void write(int register, int v) {
        if (register == 0 || register == 1) {
            out[1 - register] = v;
            touch(1 - register, true);
        } else if (register == 2 || register == 3) {
            directions[3 - register] = v;
        } else if (register == 4 || register == 6) {
            latch1 = latch1 / 256 * 256 + v;
        } else if (register == 5 || register == 7) {
            latch1 = latch1 % 256 + 256 * v;
            flag[6] = false;
            if (register == 5) {
                timer1 = latch1;
                armed1 = true;
                timersBit = 0;
                ranOutFreely = false;
            }
        } else if (register == 8) {
            latch2 = v;
        } else if (register == 9) {
            timer2 = 256 * v + latch2;
            armed2 = true;
            flag[5] = false;
        } else if (register == 10) {
            shifter = v;
            shiftsToCome();
        } else if (register == 11) {
            control = v;
        } else if (register == 12) {
            ways = v;
        } else if (register == 13 || register == 14) {
            for (int f = 0; f < 7; f++) {
                if ((v >> f & 1) == 1 && register == 13) {
                    flag[f] = false;
                } else if ((v >> f & 1) == 1) {
                    enabled[f] = v >= 128;
                }
            }
        } else {
            out[0] = v;
        }
    }

    int read(int register) {
        if (register == 0 || register == 1) {
            int value = port(1 - register);
            touch(1 - register, register == 1);
            return value;
        }
        if (register == 4) {
            flag[6] = false;
        }
        if (register == 8) {
            flag[5] = false;
        }
        if (register == 10) {
            shiftsToCome();
        }
        int enabledOnes = 128;
        for (int f = 0; f < 7; f++) {
            enabledOnes += enabled[f] ? 1 << f : 0;
        }
        int[] values = {0, 0, directions[1], directions[0], timer1 % 256, timer1 / 256,
            latch1 % 256, latch1 / 256, timer2 % 256, timer2 / 256, shifter, control, ways,
            flags(), enabledOnes, port(0)};
        return values[register];
    }

    int flags() {
        int value = 0;
        for (int f = 0; f < 7; f++) {
            value |= flag[f] ? 1 << f : 0;
            value |= flag[f] && enabled[f] ? 128 : 0;
        }
        return value;
    }

    void pins(int a, int b) {
        boolean fell = pins[1] / 64 % 2 == 1 && b / 64 % 2 == 0;
        pins[0] = a;
        pins[1] = b;
        if (fell && control(5)) {
            lessTimer2();
        }
    }

    boolean line(int which, boolean level) {
        boolean rose = level && !lines[which];
        boolean fell = !level && lines[which];
        lines[which] = level;
        int side = which / 2;
        if (which % 2 == 1) {
            int way = way(side);
            boolean active = way < 2 && fell || (way == 2 || way == 3) && rose;
            if (active) {
                flag[side == 0 ? 0 : 3] = true;
            }
            return active;
        }
        boolean active = (ways >> 4 * side & 1) == 1 ? rose : fell;
        if (active) {
            flag[side == 0 ? 1 : 4] = true;
            held[side] = pins[side];
            gave4[side] = false;
        }
        return active;
    }

    int step(int n) {
        for (int i = 0; i < n; i++) {
            cycle();
        }
        return flags();
    }

    private void cycle() {
        cycleTimer1();
        if (!control(5)) {
            lessTimer2();
        }
        if (toCome > 0 && (mode() == 2 || mode() == 6)) {
            cycleShifter();
        }
        gave5[0] = false;
        gave5[1] = false;
        cycles++;
    }

    private void cycleTimer1() {
        boolean again = ranOutFreely && control(6);
        ranOutFreely = false;
        if (again) {
            timer1 = latch1;
            return;
        }
        timer1--;
        if (timer1 >= 0) {
            return;
        }
        timer1 = 65535;
        if (control(6)) {
            flag[6] = true;
            timersBit = 1 - timersBit;
            ranOutFreely = true;
        } else if (armed1) {
            flag[6] = true;
            timersBit = 1;
            armed1 = false;
        }
    }

    private void lessTimer2() {
        timer2--;
        if (timer2 < 0) {
            timer2 = 65535;
            if (armed2) {
                flag[5] = true;
                armed2 = false;
            }
        }
    }

    private void cycleShifter() {
        cyclesToShift--;
        if (cyclesToShift > 0) {
            return;
        }
        cyclesToShift = 2;
        int above = shifter / 128;
        if (mode() == 6) {
            given = above;
        }
        int below = mode() == 6 ? above : lines[3] ? 1 : 0;
        shifter = shifter * 2 % 256 + below;
        toCome--;
        if (toCome == 0) {
            flag[2] = true;
        }
    }

    private int line2(int side) {
        int way = way(side);
        if (way < 4) {
            return side == 1 && mode() == 6 ? given : 2;
        }
        boolean[] low = {gave4[side], gave5[side], true, false};
        return low[way - 4] ? 0 : 1;
    }

    int out(int what) {
        int b = control(7) ? out[1] % 128 + 128 * timersBit : out[1];
        int[] values = {out[0] & directions[0], b & directions[1], line2(0), line2(1), flags() / 128};
        return values[what];
    }

    int told(int what) {
        int armed = (armed1 ? 1 : 0) + (armed2 ? 2 : 0);
        int[] values = {timer1, timer2, latch1, toCome, timersBit, armed, cycles};
        return values[what];
    }
}
