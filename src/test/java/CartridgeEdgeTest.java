/** Promises 9, 10, 11 and 15: the borders of the cartridge's registers, banks and RAM. */
public final class CartridgeEdgeTest {
    public static void main(String[] args) {
        registersOfM1();
        registersOfM2();
        registersOfM3();
        registersOfM5();
        kindZeroHasNone();
        lowIsOneForZero();
        imageBanksAreModulo();
        ramIsOn();
        ramBordersAreItsOwn();
        ramBanksAreModulo();
        modeChoosesTheRam();
        smallRamWraps();
        highBeyondThree();
        clockNeedsNoRam();
        Checks.end("CartridgeEdgeTest");
    }

    /** Behind writes of values at addresses, in pairs; four banks of the image, each with its number at its first byte. */
    private static HandheldPair behind(int kind, int ram, int... pokes) {
        Rom rom = new Rom(0x10000).kind(kind, ram).put(0x4000, 1).put(0x8000, 2).put(0xC000, 3);
        for (int i = 0; i < pokes.length; i += 2) {
            rom.poke(pokes[i], pokes[i + 1]);
        }
        HandheldPair x = rom.stay().start();
        x.run(16 + 12 * pokes.length);
        return x;
    }

    private static void dueLow(String what, HandheldPair x, int low) {
        Checks.due(what + ": LOW", x.about(0, 21), low);
    }

    private static void dueHigh(String what, HandheldPair x, int high) {
        Checks.due(what + ": HIGH", x.about(0, 22), high);
    }

    private static void dueOn(String what, HandheldPair x, boolean on) {
        Checks.due(what + ": ON", x.memory(0, 0xA000) != 255 ? 1 : 0, on ? 1 : 0);
    }

    private static void registersOfM1() {
        dueOn("$0000", behind(3, 3, 0x0000, 10), true);
        dueOn("$1FFF", behind(3, 3, 0x1FFF, 10), true);
        dueOn("$2000", behind(3, 3, 0x2000, 10), false);
        dueLow("$1FFF", behind(3, 3, 0x1FFF, 10), 1);
        dueLow("$2000", behind(3, 3, 0x2000, 10), 10);
        dueLow("$3FFF", behind(3, 3, 0x3FFF, 31), 31);
        dueLow("$4000", behind(3, 3, 0x4000, 3), 1);
        dueHigh("$3FFF", behind(3, 3, 0x3FFF, 3), 0);
        dueHigh("$4000", behind(3, 3, 0x4000, 3), 3);
        dueHigh("$5FFF", behind(3, 3, 0x5FFF, 2), 2);
        dueHigh("4 of two bits", behind(3, 3, 0x4000, 4), 0);
        dueHigh("$6000", behind(3, 3, 0x6000, 1), 0);
        dueHigh("$7FFF", behind(3, 3, 0x7FFF, 1), 0);
        dueLow("$7FFF", behind(3, 3, 0x7FFF, 3), 1);
        dueLow("32 and 5 of five bits", behind(3, 3, 0x2000, 0xE5), 5);
    }

    /** M2, below $4000: address bit 8 clear: ON; set: LOW; else nothing. */
    private static void registersOfM2() {
        int[] on = {0x0000, 0x00FF, 0x0200, 0x2000, 0x3E00, 0x3EFF};
        for (int address : on) {
            dueOn("bit 8 clear", behind(6, 0, address, 10), true);
            dueLow("bit 8 clear", behind(6, 0, address, 10), 1);
        }
        int[] low = {0x0100, 0x01FF, 0x2100, 0x3F00, 0x3FFF};
        for (int address : low) {
            dueOn("bit 8 set", behind(6, 0, address, 10), false);
            dueLow("bit 8 set", behind(6, 0, address, 10), 10);
        }
        int[] nothing = {0x4000, 0x4100, 0x5FFF, 0x6000, 0x7EFF, 0x7FFF};
        for (int address : nothing) {
            dueOn("from $4000 on", behind(6, 0, address, 10), false);
            dueLow("from $4000 on", behind(6, 0, address, 10), 1);
            dueHigh("from $4000 on", behind(6, 0, address, 10), 0);
        }
        dueLow("15", behind(6, 0, 0x2100, 15), 15);
        dueLow("16 of four bits", behind(6, 0, 0x2100, 16), 1);
        dueLow("$F3 of four bits", behind(6, 0, 0x2100, 0xF3), 3);
    }

    private static void registersOfM3() {
        dueOn("$1FFF", behind(0x13, 3, 0x1FFF, 10), true);
        dueOn("$2000", behind(0x13, 3, 0x2000, 10), false);
        dueLow("$2000", behind(0x13, 3, 0x2000, 127), 127);
        dueLow("$3FFF", behind(0x13, 3, 0x3FFF, 0xFF), 127);
        dueLow("128 of seven bits", behind(0x13, 3, 0x2000, 128), 1);
        dueLow("$4000", behind(0x13, 3, 0x4000, 5), 1);
        dueHigh("$4000", behind(0x13, 3, 0x4000, 5), 5);
        dueHigh("$5FFF", behind(0x13, 3, 0x5FFF, 15), 15);
        dueHigh("16 of four bits", behind(0x13, 3, 0x4000, 16), 0);
        dueHigh("$6000", behind(0x13, 3, 0x6000, 5), 0);
        dueHigh("$7FFF", behind(0x13, 3, 0x7FFF, 5), 0);
    }

    /** M5: below $3000 the 8 low bits of LOW, below $4000 its bit 8. */
    private static void registersOfM5() {
        dueOn("$1FFF", behind(0x1B, 3, 0x1FFF, 10), true);
        dueOn("$2000", behind(0x1B, 3, 0x2000, 10), false);
        dueLow("$1FFF", behind(0x1B, 3, 0x1FFF, 10), 1);
        dueLow("$2000", behind(0x1B, 3, 0x2000, 0xFF), 0xFF);
        dueLow("$2FFF", behind(0x1B, 3, 0x2FFF, 0), 0);
        dueLow("$3000", behind(0x1B, 3, 0x3000, 1), 0x101);
        dueLow("$3FFF", behind(0x1B, 3, 0x3FFF, 0xFF), 0x101);
        dueLow("$3FFF, bit 0 clear", behind(0x1B, 3, 0x3000, 1, 0x3FFF, 0xFE), 1);
        dueLow("bit 8 stays", behind(0x1B, 3, 0x3000, 1, 0x2000, 0), 0x100);
        dueLow("the low ones stay", behind(0x1B, 3, 0x2000, 0xFF, 0x3000, 1), 0x1FF);
        dueLow("$4000", behind(0x1B, 3, 0x4000, 5), 1);
        dueHigh("$4000", behind(0x1B, 3, 0x4000, 15), 15);
        dueHigh("$5FFF", behind(0x1B, 3, 0x5FFF, 0xFF), 15);
        dueHigh("$6000", behind(0x1B, 3, 0x6000, 5), 0);
        dueHigh("$7FFF", behind(0x1B, 3, 0x7FFF, 5), 0);
        Checks.due("bank 0 at $4100", behind(0x1B, 3, 0x2000, 0).memory(0, 0x4100), 0xC3);
        Checks.due("$100 modulo 4 is bank 0", behind(0x1B, 3, 0x3000, 1, 0x2000, 0).memory(0, 0x4100), 0xC3);
    }

    private static void kindZeroHasNone() {
        HandheldPair x = behind(0, 3, 0x0000, 10, 0x2000, 3, 0x4000, 2, 0x6000, 1, 0xA000, 7);
        dueLow("kind 0", x, 1);
        dueHigh("kind 0", x, 0);
        Checks.due("bank 1, always", x.memory(0, 0x4000), 1);
        Checks.due("no RAM", x.memory(0, 0xA000), 255);
        Checks.due("no RAM", x.memory(0, 0xBFFF), 255);
        Checks.due("the image is not written", x.memory(0, 0x2000), 0);
    }

    /** LOW is 1 if that is 0, by the bits that are kept; of M5 it may be 0. */
    private static void lowIsOneForZero() {
        int[][] cases = {{1, 0x2000, 0, 1}, {1, 0x2000, 0x20, 1}, {1, 0x2000, 0xE0, 1}, {5, 0x2100, 0, 1}, {5, 0x2100, 0xF0, 1},
            {0x11, 0x2000, 0, 1}, {0x11, 0x2000, 0x80, 1}, {0x19, 0x2000, 0, 0}};
        for (int[] c : cases) {
            HandheldPair x = behind(c[0], 0, c[1], 2, c[1], c[2]);
            dueLow("kind " + c[0] + " of " + c[2], x, c[3]);
            Checks.due("its bank", x.memory(0, 0x4000), c[3]);
        }
    }

    private static void imageBanksAreModulo() {
        int[][] cases = {{1, 0x2000, 4, 0}, {1, 0x2000, 5, 1}, {1, 0x2000, 31, 3}, {5, 0x2100, 4, 0}, {5, 0x2100, 15, 3},
            {0x11, 0x2000, 4, 0}, {0x11, 0x2000, 126, 2}, {0x19, 0x2000, 4, 0}, {0x19, 0x2000, 255, 3}};
        for (int[] c : cases) {
            Checks.due("kind " + c[0] + ", bank " + c[2], behind(c[0], 0, c[1], c[2]).memory(0, 0x4000), c[3]);
        }
        HandheldPair x = behind(1, 0, 0x6000, 1, 0x4000, 3, 0x2000, 2);
        Checks.due("MODE 1: 32 * HIGH modulo 4 below $4000", x.memory(0, 0x0100), 0xC3);
        Checks.due("LOW + 32 * HIGH modulo 4", x.memory(0, 0x4000), 2);
    }

    /** M1, M2, M3: ON = (v & 15 is 10); M5: v is 10. */
    private static void ramIsOn() {
        int[] kinds = {3, 6, 0x13, 0x1B};
        int[] values = {10, 0x1A, 0xFA, 9, 11, 0, 0xA0, 0x0E};
        for (int kind : kinds) {
            for (int v : values) {
                boolean on = kind == 0x1B ? v == 10 : v % 16 == 10;
                dueOn("kind " + kind + " by " + v, behind(kind, 2, 0, v), on);
                HandheldPair x = behind(kind, 2, 0, v, 0xA000, 5);
                Checks.due("written if it is ON", x.saved(0, 0), on ? 5 : 0);
                dueOn("ON before", behind(kind, 2, 0, 10, 0, v), on);
            }
            dueOn("not at power on", behind(kind, 2), false);
        }
    }

    private static void ramBordersAreItsOwn() {
        HandheldPair x = behind(3, 2, 0, 10, 0xA000, 1, 0xBFFF, 2);
        x.run(200);
        Checks.due("$9FFF is VIDEO", x.memory(0, 0x9FFF), 0);
        Checks.due("$A000", x.memory(0, 0xA000), 1);
        Checks.due("$A001", x.memory(0, 0xA001), 0);
        Checks.due("$BFFE", x.memory(0, 0xBFFE), 0);
        Checks.due("$BFFF", x.memory(0, 0xBFFF), 2);
        Checks.due("$C000 is WORK", x.memory(0, 0xC000), 0);
        Checks.due("saved", x.saved(0, 0) * 16 + x.saved(0, 8191), 18);
    }

    private static void ramBanksAreModulo() {
        int[][] cases = {{0x1B, 3, 4, 0}, {0x1B, 3, 7, 3}, {0x1B, 3, 15, 3}, {0x1B, 2, 1, 0}, {0x1B, 2, 15, 0}, {0x13, 2, 1, 0}, {0x13, 2, 3, 0}, {0x13, 3, 3, 3}};
        for (int[] c : cases) {
            HandheldPair x = behind(c[0], c[1], 0, 10, 0x4000, c[2], 0xA001, 9);
            Checks.due("kind " + c[0] + ", HIGH " + c[2], x.saved(0, c[3] * 8192 + 1), 9);
            Checks.due("read there", x.memory(0, 0xA001), 9);
        }
    }

    /** M1: bank HIGH if MODE is 1, else 0; MODE is bit 0 alone. */
    private static void modeChoosesTheRam() {
        int[][] cases = {{0, 0}, {1, 3}, {2, 0}, {3, 3}, {0xFE, 0}, {0xFF, 3}};
        for (int[] c : cases) {
            HandheldPair x = behind(3, 3, 0, 10, 0x4000, 3, 0x7FFF, c[0], 0xA000, 9);
            Checks.due("MODE " + c[0], x.saved(0, c[1] * 8192), 9);
        }
        HandheldPair x = behind(3, 2, 0, 10, 0x4000, 3, 0x6000, 1, 0xA000, 9);
        Checks.due("modulo one bank", x.saved(0, 0), 9);
        HandheldPair y = behind(3, 3, 0, 10, 0x4000, 3, 0xA000, 9);
        Checks.due("MODE is 0 at power on", y.saved(0, 0), 9);
        HandheldPair z = behind(3, 3, 0, 10, 0x4000, 3, 0xA000, 9, 0x6000, 1);
        z.power(0);
        z.run(16 + 3 * 24);
        Checks.due("MODE is 0 behind power", z.memory(0, 0xA000), 9);
        Checks.due("nothing came to bank 3", z.saved(0, 3 * 8192), 0);
    }

    /** M2: byte (address & 511), read with its four high bits set, of a written one the low four kept. */
    private static void smallRamWraps() {
        HandheldPair x = behind(5, 3, 0, 10, 0xA1FF, 0x21, 0xA200, 0x32, 0xBFFE, 0xF3);
        int[][] want = {{0xA1FF, 0xF1}, {0xA3FF, 0xF1}, {0xBFFF, 0xF1}, {0xA000, 0xF2}, {0xA200, 0xF2}, {0xBE00, 0xF2}, {0xA1FE, 0xF3}, {0xA001, 0xF0}};
        for (int[] w : want) {
            Checks.due("at " + Integer.toHexString(w[0]), x.memory(0, w[0]), w[1]);
        }
        Checks.due("as kept", x.saved(0, 511), 1);
        Checks.due("as kept", x.saved(0, 0), 2);
        Checks.due("as kept", x.saved(0, 510), 3);
    }

    /** M3: HIGH 4 to 7 and 13 to 15 read $FF, write nothing. */
    private static void highBeyondThree() {
        int[] codes = {2, 3};
        for (int code : codes) {
            for (int high = 4; high < 16; high++) {
                if (high >= 8 && high <= 12) {
                    continue;
                }
                HandheldPair x = behind(0x10, code, 0, 10, 0x4000, high, 0xA000, 9);
                Checks.due("HIGH " + high + " reads $FF", x.memory(0, 0xA000), 255);
                for (int bank = 0; bank < (code == 3 ? 4 : 1); bank++) {
                    Checks.due("HIGH " + high + " writes nothing", x.saved(0, bank * 8192), 0);
                }
            }
        }
    }

    /** No RAM: reads $FF, writes nothing; M3's clock needs none. */
    private static void clockNeedsNoRam() {
        for (int high = 0; high < 16; high++) {
            HandheldPair x = behind(0x0F, 0, 0, 10, 0x4000, high, 0xA000, 1);
            Checks.due("HIGH " + high, x.memory(0, 0xA000), high >= 8 && high <= 12 ? 1 : 255);
            HandheldPair y = behind(0x0F, 0, 0x4000, high, 0xA000, 1);
            Checks.due("HIGH " + high + ", not ON", y.memory(0, 0xA000), 255);
        }
        HandheldPair x = behind(0x0F, 0, 0, 10, 0x4000, 8, 0xBFFF, 1, 0, 0, 0xA000, 2, 0, 10);
        Checks.due("not ON: the clock is not written", x.memory(0, 0xA123), 1);
    }
}
