/**
 * Promise 9: in which of an instruction's M-CYCLES each of its reads and writes comes. Mode 3,
 * which blocks VIDEO, begins behind the j-th M-CYCLE: what comes until then goes well, what comes
 * later reads $FF or is not written.
 */
public final class AccessOrderTest {
    private static final int[] TURN_OFF = {0xAF, 0xE0, 0x40, 0x76};

    public static void main(String[] args) {
        pushes();
        calls();
        restarts();
        returns();
        pops();
        stackPointerIsStored();
        plainWrites();
        plainReads();
        readsThenWrites();
        bitsOfMemory();
        interrupts();
        interruptAskedForInItsLastCycle();
        operandsAreReadInTurn();
        operandsOfOneByte();
        readsOfRegisters();
        Checks.end("AccessOrderTest");
    }

    /** A program that is set up with the screen off; TIME is counted with it. */
    private static final class Bed {
        final Rom rom = new Rom(0x800);
        int time = 16;

        Bed() {
            for (int k = 0; k < 8; k++) {
                rom.put(8 * k, TURN_OFF);
            }
            rom.put(0x40, TURN_OFF).put(0x334, TURN_OFF);
            ldh(0x40, 0);
        }

        Bed ldh(int low, int v) {
            rom.ldh(low, v);
            time += 20;
            return this;
        }

        Bed poke(int address, int v) {
            rom.poke(address, v);
            time += 24;
            return this;
        }

        /** 0 BC, 1 DE, 2 HL, 3 SP. */
        Bed pair(int p, int v) {
            rom.code(16 * p + 1, v, v >> 8);
            time += 12;
            return this;
        }

        /** The screen is turned on, and the code begins j M-CYCLES before mode 3; so many more are run. */
        HandheldPair before(int j, int cycles, int... code) {
            ldh(0x40, 0x91);
            rom.nops(20 - j).code(code).code(TURN_OFF);
            return go(80 - 4 * j + 4 * cycles);
        }

        /** The same with code that stands at $9000, and is jumped to. */
        HandheldPair beforeInVideo(int j, int cycles) {
            ldh(0x40, 0x91);
            rom.nops(16 - j).code(0xC3, 0x00, 0x90);
            return go(80 - 4 * j + 4 * cycles);
        }

        private HandheldPair go(int dots) {
            HandheldPair x = rom.start();
            x.run(time + dots);
            Checks.due("TIME", x.time(0), time + dots);
            return x;
        }
    }

    private static String name(int code, int j) {
        return Integer.toHexString(code) + ", mode 3 behind " + j;
    }

    /** What a word in VIDEO is once the screen is off. */
    private static int wordAt(HandheldPair x, int address) {
        x.run(400);
        return x.memory(0, address) | x.memory(0, address + 1) << 8;
    }

    /** Its high byte was written in M-CYCLE first, its low byte in the next. */
    private static void duePushed(String what, HandheldPair x, int j, int first, int word) {
        int want = (j >= first ? word & 0xFF00 : 0) | (j > first ? word & 255 : 0);
        Checks.due(what + ": SP", x.about(0, 8), 0x9002);
        Checks.due(what, wordAt(x, 0x9002), want);
    }

    /** "+ push": the third and the fourth M-CYCLE. */
    private static void pushes() {
        int[][] cases = {{0xC5, 0x1234}, {0xD5, 0x1234}, {0xE5, 0x1234}, {0xF5, 0x91B0}};
        for (int[] c : cases) {
            for (int j = 0; j <= 5; j++) {
                HandheldPair x = new Bed().pair(0, 0x1234).pair(1, 0x1234).pair(2, 0x1234).pair(3, 0x9004).before(j, 4, c[0]);
                duePushed(name(c[0], j), x, j, 3, c[1]);
            }
        }
    }

    /** nn, + push: the fifth and the sixth. Z and C are set. */
    private static void calls() {
        int[] codes = {0xCD, 0xCC, 0xDC};
        for (int code : codes) {
            for (int j = 0; j <= 7; j++) {
                Bed bed = new Bed().pair(3, 0x9004);
                int back = bed.rom.here() + 4 + 20 - j + 3;
                HandheldPair x = bed.before(j, 6, code, 0x34, 0x03);
                Checks.due(name(code, j), x.about(0, 9), 0x334);
                duePushed(name(code, j), x, j, 5, back);
            }
        }
    }

    private static void restarts() {
        for (int y = 0; y < 8; y++) {
            for (int j = 0; j <= 5; j++) {
                Bed bed = new Bed().pair(3, 0x9004);
                int back = bed.rom.here() + 4 + 20 - j + 1;
                HandheldPair x = bed.before(j, 4, 0xC7 | 8 * y);
                Checks.due(name(0xC7 | 8 * y, j), x.about(0, 9), 8 * y);
                duePushed(name(0xC7 | 8 * y, j), x, j, 3, back);
            }
        }
    }

    /** A word of which the low byte was read in M-CYCLE first, the high byte in the next. */
    private static int popped(int j, int first) {
        return (j >= first ? 0x34 : 0xFF) | (j > first ? 0x0300 : 0xFF00);
    }

    /** Pop PC, +: the second and the third M-CYCLE; with cc one later. */
    private static void returns() {
        int[][] cases = {{0xC9, 4, 2}, {0xD9, 4, 2}, {0xC8, 5, 3}, {0xD8, 5, 3}};
        for (int[] c : cases) {
            for (int j = 0; j <= 6; j++) {
                HandheldPair x = new Bed().poke(0x9000, 0x34).poke(0x9001, 0x03).pair(3, 0x9000).before(j, c[1], c[0]);
                Checks.due(name(c[0], j), x.about(0, 9), popped(j, c[2]));
                Checks.due("SP", x.about(0, 8), 0x9002);
            }
        }
    }

    private static void pops() {
        for (int p = 0; p < 3; p++) {
            for (int j = 0; j <= 4; j++) {
                HandheldPair x = new Bed().poke(0x9000, 0x34).poke(0x9001, 0x03).pair(3, 0x9000).before(j, 3, 0xC1 | 16 * p);
                Checks.due(name(0xC1 | 16 * p, j), x.about(0, 2 + 2 * p) << 8 | x.about(0, 3 + 2 * p), popped(j, 2));
            }
        }
    }

    /** SP low, high to nn, nn + 1: the fourth and the fifth. */
    private static void stackPointerIsStored() {
        for (int j = 0; j <= 6; j++) {
            HandheldPair x = new Bed().pair(3, 0xD678).before(j, 5, 0x08, 0x00, 0x90);
            Checks.due(name(0x08, j), wordAt(x, 0x9000), (j >= 4 ? 0x78 : 0) | (j >= 5 ? 0xD600 : 0));
        }
    }

    private static void plainWrites() {
        int[][] cases = {{2, 0x02, 0, 0, 0x91}, {2, 0x12, 0, 0, 0x91}, {2, 0x22, 0, 0, 0x91}, {2, 0x32, 0, 0, 0x91}, {2, 0x77, 0, 0, 0x91}, {2, 0x70, 0, 0, 0x90},
            {3, 0x36, 0x57, 0, 0x57}, {4, 0xEA, 0x00, 0x90, 0x91}};
        for (int[] c : cases) {
            int[] code = java.util.Arrays.copyOfRange(c, 1, c[0] == 2 ? 2 : c[0]);
            for (int j = 0; j <= 5; j++) {
                HandheldPair x = new Bed().pair(0, 0x9000).pair(1, 0x9000).pair(2, 0x9000).before(j, c[0], code);
                Checks.due(name(c[1], j), wordAt(x, 0x9000), j >= c[0] ? c[4] : 0);
            }
        }
    }

    private static void plainReads() {
        int[][] cases = {{2, 0x0A, 0, 0}, {2, 0x1A, 0, 0}, {2, 0x2A, 0, 0}, {2, 0x3A, 0, 0}, {2, 0x7E, 0, 0}, {4, 0xFA, 0x00, 0x90}};
        for (int[] c : cases) {
            int[] code = java.util.Arrays.copyOfRange(c, 1, c[0] == 2 ? 2 : c[0]);
            for (int j = 0; j <= 5; j++) {
                HandheldPair x = new Bed().poke(0x9000, 0x57).pair(0, 0x9000).pair(1, 0x9000).pair(2, 0x9000).before(j, c[0], code);
                Checks.due(name(c[1], j), x.about(0, 0), j >= c[0] ? 0x57 : 0xFF);
            }
        }
        for (int y = 0; y < 8; y++) {
            for (int j = 1; j <= 2; j++) {
                // With 0 each of these leaves another A or F than with $FF; A is $91, C is set.
                HandheldPair x = new Bed().pair(2, 0x9000).before(j, 2, 0x86 | 8 * y);
                HandheldPair want = new Bed().before(5, 2, 0xC6 | 8 * y, j == 2 ? 0 : 0xFF);
                Checks.due(name(0x86 | 8 * y, j), x.about(0, 0) << 8 | x.about(0, 1), want.about(0, 0) << 8 | want.about(0, 1));
            }
        }
    }

    /** (HL) is read in the second M-CYCLE and written in the third. */
    private static void readsThenWrites() {
        for (int j = 0; j <= 4; j++) {
            HandheldPair more = new Bed().poke(0x9000, 0x41).pair(2, 0x9000).before(j, 3, 0x34);
            Checks.due(name(0x34, j) + ": F", more.about(0, 1), j >= 2 ? 0x10 : 0xB0);
            Checks.due(name(0x34, j), wordAt(more, 0x9000), j >= 3 ? 0x42 : 0x41);
            HandheldPair less = new Bed().poke(0x9000, 0x01).pair(2, 0x9000).before(j, 3, 0x35);
            Checks.due(name(0x35, j) + ": F", less.about(0, 1), j >= 2 ? 0xD0 : 0x50);
            Checks.due(name(0x35, j), wordAt(less, 0x9000), j >= 3 ? 0x00 : 0x01);
        }
    }

    /** Behind $CB and n: read in the third M-CYCLE, written in the fourth, if it is. */
    private static void bitsOfMemory() {
        for (int j = 0; j <= 5; j++) {
            HandheldPair bit = new Bed().pair(2, 0x9000).before(j, 3, 0xCB, 0x46);
            Checks.due(name(0xCB46, j), bit.about(0, 1), j >= 3 ? 0xB0 : 0x30);
            HandheldPair swap = new Bed().poke(0x9000, 0x12).pair(2, 0x9000).before(j, 4, 0xCB, 0x36);
            Checks.due(name(0xCB36, j), wordAt(swap, 0x9000), j >= 4 ? 0x21 : 0x12);
            HandheldPair left = new Bed().poke(0x9000, 0x12).pair(2, 0x9000).before(j, 4, 0xCB, 0x06);
            Checks.due(name(0xCB06, j) + ": F", left.about(0, 1), j >= 3 ? 0x00 : 0x10);
            HandheldPair clear = new Bed().poke(0x9000, 0x12).pair(2, 0x9000).before(j, 4, 0xCB, 0x8E);
            Checks.due(name(0xCB8E, j), wordAt(clear, 0x9000), j >= 4 ? 0x10 : 0x12);
            HandheldPair set = new Bed().poke(0x9000, 0x12).pair(2, 0x9000).before(j, 4, 0xCB, 0xC6);
            Checks.due(name(0xCBC6, j), wordAt(set, 0x9000), j >= 4 ? 0x13 : 0x12);
        }
    }

    /** + +, PC high, PC low, +: the third and the fourth M-CYCLE. */
    private static void interrupts() {
        for (int j = 0; j <= 6; j++) {
            Bed bed = new Bed().ldh(0xFF, 1).pair(3, 0x9004);
            int back = bed.rom.here() + 4 + 20 - j;
            bed.rom.put(back - 2, 0xFB);
            HandheldPair x = bed.before(j, 5);
            Checks.due("interrupt, mode 3 behind " + j, x.about(0, 9), 0x40);
            duePushed("interrupt, mode 3 behind " + j, x, j, 3, back);
        }
    }

    /** It goes from IF behind the fourth M-CYCLE: TIMA asks for it at 132, in the fifth, or in the fourth. */
    private static void interruptAskedForInItsLastCycle() {
        for (int late = 0; late < 2; late++) {
            HandheldPair x = new Rom().ldh(0x0F, 4).ldh(0xFF, 4).ldh(7, 5).nops(3 + late).code(0x3E, 0xFF, 0xFB, 0xE0, 0x05, 0x00).start();
            x.run(112 + 4 * late);
            Checks.due("IF", x.memory(0, 0xFF0F), 0xE4);
            Checks.due("IME", x.about(0, 10), 1);
            x.run(4);
            Checks.due("PC", x.about(0, 9), 0x50);
            Checks.due("TIME", x.time(0), 132 + 4 * late);
            Checks.due("IF", x.memory(0, 0xFF0F), late == 0 ? 0xE4 : 0xE0);
        }
    }

    private static HandheldPair inVideo(int j, int cycles, int... code) {
        Bed bed = new Bed();
        for (int i = 0; i < code.length; i++) {
            bed.poke(0x9000 + i, code[i]);
        }
        return bed.beforeInVideo(j, cycles);
    }

    /** n and nn (low first) are read at PC, in the M-CYCLES right behind the first. */
    private static void operandsAreReadInTurn() {
        int[] jumps = {0xC3, 0xCA, 0xDA, 0xCD, 0xCC, 0xDC};
        for (int code : jumps) {
            boolean call = (code & 7) != 2 && code != 0xC3;
            for (int j = 1; j <= 5; j++) {
                HandheldPair x = inVideo(j, call ? 6 : 4, code, 0x34, 0x03);
                Checks.due(name(code, j), x.about(0, 9), popped(j, 2));
            }
        }
        for (int p = 0; p < 3; p++) {
            for (int j = 1; j <= 4; j++) {
                HandheldPair x = inVideo(j, 3, 0x01 | 16 * p, 0x34, 0x03);
                Checks.due(name(0x01 | 16 * p, j), x.about(0, 2 + 2 * p) << 8 | x.about(0, 3 + 2 * p), popped(j, 2));
            }
        }
        HandheldPair none = inVideo(0, 4, 0xC3, 0x34, 0x03);
        Checks.due("the first byte is $FF, a call of $38", none.about(0, 9), 0x38);
    }

    private static void operandsOfOneByte() {
        for (int j = 1; j <= 4; j++) {
            int d = j >= 2 ? 0x22 : -1;
            Checks.due(name(0x18, j), inVideo(j, 3, 0x18, 0x22).about(0, 9), 0x9002 + d);
            Checks.due(name(0x28, j), inVideo(j, 3, 0x28, 0x22).about(0, 9), 0x9002 + d);
            Checks.due(name(0x38, j), inVideo(j, 3, 0x38, 0x22).about(0, 9), 0x9002 + d);
            HandheldPair hl = inVideo(j, 3, 0xF8, 0x22);
            Checks.due(name(0xF8, j), hl.about(0, 6) << 8 | hl.about(0, 7), (0xFFFE + d) & 0xFFFF);
            Checks.due(name(0xE8, j), inVideo(j, 4, 0xE8, 0x22).about(0, 8), (0xFFFE + d) & 0xFFFF);
            Checks.due(name(0x06, j), inVideo(j, 2, 0x06, 0x22).about(0, 2), d & 255);
            Checks.due(name(0xE6, j), inVideo(j, 2, 0xE6, 0x22).about(0, 0), 0x91 & d);
            Checks.due(name(0xCB, j), inVideo(j, 2, 0xCB, 0x37).about(0, 0), j >= 2 ? 0x19 : 0x91);
            Checks.due(name(0xF0, j), inVideo(j, 3, 0xF0, 0x47).about(0, 0), j >= 2 ? 0xFC : 0x00);
        }
    }

    /** DIVIDER's high byte becomes 2 at 512: it is read in the last M-CYCLE of each. */
    private static void readsOfRegisters() {
        int[][] cases = {{3, 0xF0, 0x04, 0}, {2, 0xF2, 0, 0}, {4, 0xFA, 0x04, 0xFF}, {2, 0x7E, 0, 0}};
        for (int[] c : cases) {
            int[] code = java.util.Arrays.copyOfRange(c, 1, c[1] == 0xFA ? 4 : c[1] == 0xF0 ? 3 : 2);
            for (int j = 0; j <= 5; j++) {
                HandheldPair x = new Rom().spend(512 - 316 - 4 * j).code(0x21, 0x04, 0xFF, 0x0E, 0x04).nops(70).code(code).start();
                x.run(512 - 4 * j + 4 * c[0]);
                Checks.due("TIME", x.time(0), 512 - 4 * j + 4 * c[0]);
                Checks.due(name(c[1], j), x.about(0, 0), j <= c[0] ? 2 : 1);
            }
        }
    }
}
