/** Promises 9 and 11: every instruction of the processor, what it does and how long it takes. */
public final class InstructionsTest {
    /** M-CYCLES of each instruction, conditions not held; * for $CB, which has its own. */
    private static final String CYCLES =
        "1322112152221121" + "1322112132221121" + "2322112122221121" + "2322333122221121"
        + "1111112111111121" + "1111112111111121" + "1111112111111121" + "2222221211111121"
        + "1111112111111121" + "1111112111111121" + "1111112111111121" + "1111112111111121"
        + "23343424" + "243*3624" + "23313424" + "24313124" + "33211424" + "41411124" + "33211424" + "32411124";
    private static final String STUCK = "\u00d3\u00db\u00dd\u00e3\u00e4\u00eb\u00ec\u00ed\u00f4\u00fc\u00fd";
    private static final int[] EDGES = {0, 1, 0x0F, 0x10, 0x7F, 0x80, 0x99, 0xF0, 0xFF};

    public static void main(String[] args) {
        cyclesOfAll();
        cyclesBehindCb();
        conditions();
        loads();
        arithmetic();
        countingByOne();
        decimal();
        turning();
        bits();
        words();
        memoryByPairs();
        stackAndCalls();
        highMemory();
        flagsAlone();
        stuck();
        Checks.end("InstructionsTest");
    }

    private static HandheldPair at100(int... code) {
        return new Rom().put(0x100, code).start();
    }

    /** At power on Z and C are set: so not Z and not C do not hold, and Z and C do. */
    private static int cyclesWhenSet(int op) {
        int listed = CYCLES.charAt(op) - '0';
        boolean holds = (op & 8) != 0;
        if ((op & 0xE7) == 0x20) {
            return holds ? 3 : 2;
        }
        if ((op & 0xE7) == 0xC0) {
            return holds ? 5 : 2;
        }
        if ((op & 0xE7) == 0xC2) {
            return holds ? 4 : 3;
        }
        return (op & 0xE7) == 0xC4 ? (holds ? 6 : 3) : listed;
    }

    private static int cyclesWhenClear(int op) {
        boolean byCondition = (op & 0xE7) == 0x20 || (op & 0xE7) == 0xC0 || (op & 0xE7) == 0xC2 || (op & 0xE7) == 0xC4;
        return cyclesWhenSet(byCondition ? op ^ 8 : op);
    }

    private static void cyclesOfAll() {
        for (int op = 0; op < 256; op++) {
            if (op == 0xCB) {
                continue;
            }
            HandheldPair x = at100(op, 0, 0xC0);
            Checks.due("one step", x.run(1), 1);
            Checks.due("DOTS of " + Integer.toHexString(op), x.time(0), 4 * cyclesWhenSet(op));
            x = at100(0xA7, op, 0, 0xC0);
            Go.step(x, 2);
            Checks.due("DOTS of " + Integer.toHexString(op) + " with Z, C clear", x.time(0), 4 + 4 * cyclesWhenClear(op));
        }
    }

    private static void cyclesBehindCb() {
        for (int op = 0; op < 256; op++) {
            HandheldPair x = at100(0xCB, op);
            x.run(1);
            int want = (op & 7) != 6 ? 2 : op >> 6 == 1 ? 3 : 4;
            Checks.due("DOTS of CB " + Integer.toHexString(op), x.time(0), 4 * want);
            Checks.due("PC", x.about(0, 9), 0x102);
        }
    }

    private static void conditions() {
        int[] flags = {0, 0x80, 0x10, 0x90, 0x60, 0xF0};
        for (int f : flags) {
            for (int k = 0; k < 4; k++) {
                boolean set = (f & (k < 2 ? 0x80 : 0x10)) != 0;
                boolean holds = set == ((k & 1) == 1);
                HandheldPair x = new Rom().put(0x100, 0x01, f, 0x12, 0xC5, 0xF1, 0x20 | k << 3, 0x84).start();
                Go.step(x, 4);
                Checks.due("F", x.about(0, 1), f);
                Checks.due("jump by d", x.about(0, 9), holds ? 0x107 - 0x7C : 0x107);
                x = new Rom().put(0x100, 0x01, f, 0x12, 0xC5, 0xF1, 0xC2 | k << 3, 0x34, 0x12).start();
                Go.step(x, 4);
                Checks.due("jump", x.about(0, 9), holds ? 0x1234 : 0x108);
                x = new Rom().put(0x100, 0x01, f, 0x12, 0xC5, 0xF1, 0xC4 | k << 3, 0x34, 0x12).start();
                Go.step(x, 4);
                Checks.due("call", x.about(0, 9), holds ? 0x1234 : 0x108);
                Checks.due("call: SP", x.about(0, 8), holds ? 0xFFFC : 0xFFFE);
                x = new Rom().put(0x100, 0x01, f, 0x12, 0xC5, 0xF1, 0xC5, 0xC0 | k << 3).start();
                Go.step(x, 5);
                Checks.due("return", x.about(0, 9), holds ? 0x1200 | f : 0x107);
                Checks.due("return: SP", x.about(0, 8), holds ? 0xFFFE : 0xFFFC);
            }
        }
    }

    private static final int[] PLACES = {2, 3, 4, 5, 6, 7, -1, 0};

    private static void loads() {
        for (int op = 0x40; op < 0x80; op++) {
            if (op == 0x76) {
                continue;
            }
            int to = op >> 3 & 7;
            int from = op & 7;
            HandheldPair x = new Rom().put(0x100, 0x18, 0x4E)
                .code(0x01, 0x22, 0x11, 0x11, 0x44, 0x33, 0x21, 0x80, 0xC0, 0x3E, 0x77, 0x36, 0x66, op).start();
            Go.step(x, 7);
            int[] values = {0x11, 0x22, 0x33, 0x44, 0xC0, 0x80, 0x66, 0x77};
            int got = to == 6 ? x.memory(0, 0xC080) : x.about(0, PLACES[to]);
            Checks.due("load " + Integer.toHexString(op), got, values[from]);
            Checks.due("load leaves F", x.about(0, 1), 0xB0);
        }
        for (int k = 0; k < 8; k++) {
            HandheldPair x = new Rom().put(0x100, 0x18, 0x4E).code(0x21, 0x80, 0xC0, 0x06 | k << 3, 0x9B).start();
            Go.step(x, 3);
            Checks.due("load n", k == 6 ? x.memory(0, 0xC080) : x.about(0, PLACES[k]), 0x9B);
        }
    }

    /** Runs pieces that each push A and F, and looks at what they pushed. */
    private static HandheldPair runPieces(int[][] pieces) {
        Rom rom = new Rom(0x1000).code(0x31, 0x00, 0xE0);
        for (int[] piece : pieces) {
            rom.code(piece).code(0xF5);
        }
        HandheldPair x = rom.stay().start();
        x.run(80000);
        return x;
    }

    private static void duePiece(String what, HandheldPair x, int k, int a, int f) {
        Checks.due(what + ": A", x.memory(0, 0xDFFF - 2 * k), a);
        Checks.due(what + ": F", x.memory(0, 0xDFFE - 2 * k), f);
    }

    private static int flags(boolean z, boolean n, boolean h, boolean c) {
        return (z ? 128 : 0) + (n ? 64 : 0) + (h ? 32 : 0) + (c ? 16 : 0);
    }

    private static void arithmetic() {
        for (int y = 0; y < 8; y++) {
            int[][] pieces = new int[162][];
            for (int i = 0; i < 162; i++) {
                pieces[i] = new int[] {0x3E, EDGES[i / 2 / 9], i % 2 == 0 ? 0xA7 : 0x37, 0xC6 | y << 3, EDGES[i / 2 % 9]};
            }
            HandheldPair x = runPieces(pieces);
            for (int i = 0; i < 162; i++) {
                dueSum(x, i, y, EDGES[i / 2 / 9], EDGES[i / 2 % 9], i % 2);
            }
            arithmeticWithRegisters(y);
        }
    }

    private static void dueSum(HandheldPair x, int place, int y, int a, int v, int carry) {
        String what = "alu " + y + " of " + a + ", " + v + ", " + carry;
        int c = y == 1 || y == 3 ? carry : 0;
        if (y < 2) {
            int s = a + v + c;
            duePiece(what, x, place, s & 255, flags((s & 255) == 0, false, a % 16 + v % 16 + c > 15, s > 255));
        } else if (y < 4 || y == 7) {
            int s = a - v - c;
            duePiece(what, x, place, y == 7 ? a : s & 255, flags((s & 255) == 0, true, a % 16 - v % 16 - c < 0, s < 0));
        } else {
            int s = y == 4 ? a & v : y == 5 ? a ^ v : a | v;
            duePiece(what, x, place, s, flags(s == 0, false, y == 4, false));
        }
    }

    private static void arithmeticWithRegisters(int y) {
        int[][] pieces = new int[8][];
        for (int k = 0; k < 8; k++) {
            pieces[k] = new int[] {0x01, 2, 1, 0x11, 4, 3, 0x21, 0x60, 0xC0, 0x36, 0x35, 0x3E, 0x5A, 0x37, 0x80 | y << 3 | k};
        }
        HandheldPair x = runPieces(pieces);
        int[] values = {1, 2, 3, 4, 0xC0, 0x60, 0x35, 0x5A};
        for (int k = 0; k < 8; k++) {
            dueSum(x, k, y, 0x5A, values[k], 1);
        }
    }

    private static void countingByOne() {
        for (int down = 0; down < 2; down++) {
            for (int k = 0; k < 8; k++) {
                int[][] pieces = new int[18][];
                for (int i = 0; i < 18; i++) {
                    // The register is counted, then brought to A, which leaves F.
                    int[] piece = {0x21, 0x60, 0xC0, i % 2 == 0 ? 0xA7 : 0x37, 0x06 | k << 3, EDGES[i / 2], 0x04 | k << 3 | down, 0x78 | k};
                    pieces[i] = piece;
                }
                HandheldPair x = runPieces(pieces);
                for (int i = 0; i < 18; i++) {
                    int v = EDGES[i / 2];
                    int s = down == 1 ? v - 1 & 255 : v + 1 & 255;
                    boolean half = down == 1 ? v % 16 == 0 : v % 16 == 15;
                    duePiece("by one", x, i, s, flags(s == 0, down == 1, half, i % 2 == 1));
                }
            }
        }
    }

    private static void decimal() {
        for (int f = 0; f < 8; f++) {
            boolean n = (f & 4) != 0;
            boolean h = (f & 2) != 0;
            boolean c = (f & 1) != 0;
            for (int half = 0; half < 2; half++) {
                int[][] pieces = new int[128][];
                for (int i = 0; i < 128; i++) {
                    pieces[i] = new int[] {0x01, f << 4, half * 128 + i, 0xC5, 0xF1, 0x27};
                }
                HandheldPair x = runPieces(pieces);
                for (int i = 0; i < 128; i++) {
                    int a = half * 128 + i;
                    boolean sixty = n ? c : c || a > 0x99;
                    boolean six = n ? h : h || a % 16 > 9;
                    int by = (sixty ? 0x60 : 0) + (six ? 6 : 0);
                    int s = (n ? a - by : a + by) & 255;
                    duePiece("decimal " + a + " with " + f, x, i, s, flags(s == 0, n, false, n ? c : sixty));
                }
            }
        }
    }

    private static int turnedValue(int y, int v, int c) {
        switch (y) {
            case 0: return (v * 2 + v / 128) & 255;
            case 1: return v / 2 + v % 2 * 128;
            case 2: return (v * 2 + c) & 255;
            case 3: return v / 2 + c * 128;
            case 4: return v * 2 & 255;
            case 5: return v / 2 + (v & 128);
            case 6: return v % 16 * 16 + v / 16;
            default: return v / 2;
        }
    }

    private static boolean turnedOut(int y, int v) {
        return y != 6 && (y % 2 == 0 ? v >= 128 : v % 2 == 1);
    }

    private static void turning() {
        for (int k = 0; k < 8; k++) {
            int[][] pieces = new int[144][];
            for (int i = 0; i < 144; i++) {
                pieces[i] = new int[] {0x21, 0x60, 0xC0, i % 2 == 0 ? 0xA7 : 0x37, 0x06 | k << 3, EDGES[i / 2 % 9], 0xCB, i / 18 << 3 | k, 0x78 | k};
            }
            HandheldPair x = runPieces(pieces);
            for (int i = 0; i < 144; i++) {
                int s = turnedValue(i / 18, EDGES[i / 2 % 9], i % 2);
                duePiece("turned " + i / 18, x, i, s, flags(s == 0, false, false, turnedOut(i / 18, EDGES[i / 2 % 9])));
            }
        }
        int[][] pieces = new int[72][];
        for (int i = 0; i < 72; i++) {
            pieces[i] = new int[] {0x3E, EDGES[i / 2 % 9], i % 2 == 0 ? 0xA7 : 0x37, i / 18 << 3 | 7};
        }
        HandheldPair x = runPieces(pieces);
        for (int i = 0; i < 72; i++) {
            int v = EDGES[i / 2 % 9];
            duePiece("A turned " + i / 18, x, i, turnedValue(i / 18, v, i % 2), flags(false, false, false, turnedOut(i / 18, v)));
        }
    }

    private static void bits() {
        for (int k = 0; k < 8; k++) {
            int[][] pieces = new int[96][];
            for (int i = 0; i < 96; i++) {
                int v = i % 4 < 2 ? 0xA5 : 0x5A;
                pieces[i] = new int[] {0x21, 0x60, 0xC0, i % 2 == 0 ? 0xA7 : 0x37, 0x06 | k << 3, v, 0xCB, 0x40 + (i / 4 << 3) | k, 0x78 | k};
            }
            HandheldPair x = runPieces(pieces);
            for (int i = 0; i < 96; i++) {
                int v = i % 4 < 2 ? 0xA5 : 0x5A;
                int bit = 1 << i / 4 % 8;
                boolean c = i % 2 == 1;
                if (i / 32 == 0) {
                    duePiece("bit", x, i, v, flags((v & bit) == 0, false, true, c));
                } else {
                    // The flags stay: and left H alone, C = 1 left C alone.
                    duePiece("bit set or not", x, i, i / 32 == 1 ? v & ~bit : v | bit, c ? 16 : 32);
                }
            }
        }
    }

    private static void words() {
        int[][] sums = {{0x0FFF, 1}, {0xFFFF, 1}, {0x8000, 0x8000}, {0x1234, 0x4321}, {0, 0}, {0xF800, 0x0800}};
        for (int[] s : sums) {
            HandheldPair x = new Rom().put(0x100, 0x21, s[0], s[0] >> 8, 0x01, s[1], s[1] >> 8, 0x09).start();
            Go.step(x, 3);
            Checks.due("HL", x.about(0, 6) << 8 | x.about(0, 7), s[0] + s[1] & 0xFFFF);
            Checks.due("F", x.about(0, 1), flags(true, false, (s[0] & 0xFFF) + (s[1] & 0xFFF) > 0xFFF, s[0] + s[1] > 0xFFFF));
        }
        HandheldPair x = at100(0xA7, 0x19, 0x29, 0x39);
        Go.step(x, 2);
        Checks.due("HL + DE", x.about(0, 6) << 8 | x.about(0, 7), 0x14D + 0xD8);
        Checks.due("Z stays clear", x.about(0, 1) & 128, 0);
        Go.step(x, 1);
        Checks.due("HL + HL", x.about(0, 6) << 8 | x.about(0, 7), 2 * (0x14D + 0xD8));
        Go.step(x, 1);
        Checks.due("HL + SP", x.about(0, 6) << 8 | x.about(0, 7), 2 * (0x14D + 0xD8) - 2);
        int[][] moves = {{0xFFF8, 8}, {0xFFF8, 0xF8}, {0x000F, 1}, {0, 0xFF}, {0x00FF, 1}, {0x1234, 0x80}, {0x1280, 0x7F}};
        for (int[] m : moves) {
            int want = m[0] + (byte) m[1] & 0xFFFF;
            int f = flags(false, false, m[0] % 16 + m[1] % 16 > 15, m[0] % 256 + m[1] > 255);
            x = new Rom().put(0x100, 0x31, m[0], m[0] >> 8, 0xE8, m[1]).start();
            Go.step(x, 2);
            Checks.due("SP + d", x.about(0, 8), want);
            Checks.due("SP + d: F", x.about(0, 1), f);
            x = new Rom().put(0x100, 0x31, m[0], m[0] >> 8, 0xF8, m[1]).start();
            Go.step(x, 2);
            Checks.due("HL = SP + d", x.about(0, 6) << 8 | x.about(0, 7), want);
            Checks.due("HL = SP + d: F", x.about(0, 1), f);
            Checks.due("SP stays", x.about(0, 8), m[0]);
        }
        pairsByOne();
        x = at100(0xF9);
        Go.step(x, 1);
        Checks.due("SP = HL", x.about(0, 8), 0x14D);
    }

    private static int pair(HandheldPair x, int p) {
        return p == 3 ? x.about(0, 8) : x.about(0, 2 + 2 * p) << 8 | x.about(0, 3 + 2 * p);
    }

    private static void pairsByOne() {
        for (int p = 0; p < 4; p++) {
            HandheldPair x = at100(0x01 | p << 4, 0xFF, 0xFF, 0x03 | p << 4, 0x0B | p << 4);
            Go.step(x, 1);
            Checks.due("pair", pair(x, p), 0xFFFF);
            Go.step(x, 1);
            Checks.due("pair one more", pair(x, p), 0);
            Go.step(x, 1);
            Checks.due("pair one less", pair(x, p), 0xFFFF);
            Checks.due("no flags", x.about(0, 1), 0xB0);
        }
    }

    private static void memoryByPairs() {
        HandheldPair x = new Rom().put(0x100, 0x18, 0x4E)
            .code(0x01, 0x10, 0xC0, 0x11, 0x20, 0xC0, 0x21, 0x30, 0xC0, 0x3E, 0x5C)
            .code(0x02, 0x12, 0x22, 0x32, 0x3C, 0x77, 0x0A, 0x1A, 0x2A, 0x3A).start();
        Go.step(x, 9);
        int[] places = {0xC010, 0xC020, 0xC030, 0xC031};
        for (int place : places) {
            Checks.due("written at " + place, x.memory(0, place), 0x5C);
        }
        Checks.due("HL went on and back", pair(x, 2), 0xC030);
        Go.step(x, 2);
        Checks.due("written through HL", x.memory(0, 0xC030), 0x5D);
        Go.step(x, 1);
        Checks.due("read at BC", x.about(0, 0), 0x5C);
        Go.step(x, 2);
        Checks.due("read at HL, one more", x.about(0, 0), 0x5D);
        Go.step(x, 1);
        Checks.due("read at HL, one less", x.about(0, 0), 0x5C);
        Checks.due("HL", pair(x, 2), 0xC030);

        x = new Rom().put(0x100, 0x31, 0x34, 0x12, 0x08, 0x80, 0xC0).start();
        Go.step(x, 2);
        Checks.due("SP low", x.memory(0, 0xC080), 0x34);
        Checks.due("SP high", x.memory(0, 0xC081), 0x12);
    }

    private static void stackAndCalls() {
        HandheldPair x = new Rom().put(0x100, 0x18, 0x4E).code(0x31, 0, 0xD0, 0x01, 0xFF, 0x9A, 0xC5, 0xF1, 0xF5, 0xD1).start();
        Go.step(x, 4);
        Checks.due("pushed high", x.memory(0, 0xCFFF), 0x9A);
        Checks.due("pushed low", x.memory(0, 0xCFFE), 0xFF);
        Checks.due("SP", x.about(0, 8), 0xCFFE);
        Go.step(x, 1);
        Checks.due("A", x.about(0, 0), 0x9A);
        Checks.due("F has four bits", x.about(0, 1), 0xF0);
        Go.step(x, 2);
        Checks.due("DE of AF", pair(x, 1), 0x9AF0);
        x = new Rom().put(0x100, 0xCD, 0x34, 0x02).put(0x234, 0xC9).start();
        Go.step(x, 1);
        Checks.due("call", x.about(0, 9), 0x234);
        Checks.due("call: pushed", x.memory(0, 0xFFFC) | x.memory(0, 0xFFFD) << 8, 0x103);
        Go.step(x, 1);
        Checks.due("return", x.about(0, 9), 0x103);
        for (int y = 0; y < 8; y++) {
            x = at100(0xC7 | y << 3);
            Go.step(x, 1);
            Checks.due("call of 8 * y", x.about(0, 9), 8 * y);
            Checks.due("pushed", x.memory(0, 0xFFFC) | x.memory(0, 0xFFFD) << 8, 0x101);
        }
        x = at100(0xE5, 0xD9);
        Go.step(x, 2);
        Checks.due("return with IME 1: PC", x.about(0, 9), 0x14D);
        Checks.due("return with IME 1: IME", x.about(0, 10), 1);
        x = at100(0xE9);
        Go.step(x, 1);
        Checks.due("PC = HL", x.about(0, 9), 0x14D);
        x = at100(0xC3, 0x00, 0xFF);
        Go.step(x, 1);
        Checks.due("jump", x.about(0, 9), 0xFF00);
        x = at100(0x18, 0x80);
        Go.step(x, 1);
        Checks.due("jump back", x.about(0, 9), 0x82);
    }

    private static void highMemory() {
        HandheldPair x = new Rom().put(0x100, 0x18, 0x4E)
            .code(0x3E, 0x42, 0xE0, 0x90, 0x0E, 0x91, 0x3C, 0xE2, 0xF0, 0x90, 0xF2, 0xFA, 0x90, 0xFF, 0xEA, 0x00, 0xC0).start();
        Go.step(x, 6);
        Checks.due("n", x.memory(0, 0xFF90), 0x42);
        Checks.due("C", x.memory(0, 0xFF91), 0x43);
        Go.step(x, 1);
        Checks.due("from n", x.about(0, 0), 0x42);
        Go.step(x, 1);
        Checks.due("from C", x.about(0, 0), 0x43);
        Go.step(x, 2);
        Checks.due("from nn, to nn", x.memory(0, 0xC000), 0x42);
        HandheldPair y = new Rom().put(0x100, 0x18, 0x4E).code(0x0E, 0x92, 0xE2, 0x0C, 0xF2).start();
        Go.step(y, 3);
        Checks.due("an even C", y.memory(0, 0xFF92), 1);
        Checks.due("and not beside it", y.memory(0, 0xFF93), 0);
    }

    private static void flagsAlone() {
        for (int f = 0; f < 16; f++) {
            int z = f << 4 & 128;
            int c = f << 4 & 16;
            HandheldPair x = runPieces(new int[][] {
                {0x01, f << 4, 0x3C, 0xC5, 0xF1, 0x2F}, {0x01, f << 4, 0x3C, 0xC5, 0xF1, 0x37}, {0x01, f << 4, 0x3C, 0xC5, 0xF1, 0x3F}});
            duePiece("not A", x, 0, 0xC3, z | 0x60 | c);
            duePiece("C = 1", x, 1, 0x3C, z | 16);
            duePiece("C = not C", x, 2, 0x3C, z | c ^ 16);
        }
    }

    private static void stuck() {
        for (int i = 0; i < STUCK.length(); i++) {
            HandheldPair x = new Rom().put(0x100, STUCK.charAt(i), 0x3C).start();
            Checks.due("steps", x.run(400), 100);
            Checks.due("STUCK", x.about(0, 11), 3);
            Checks.due("PC", x.about(0, 9), 0x101);
            Checks.due("A", x.about(0, 0), 1);
            Checks.due("TIME", x.time(0), 400);
        }
    }
}
