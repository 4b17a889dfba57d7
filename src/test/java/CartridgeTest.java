import java.util.NoSuchElementException;

/** Promises 9, 10, 11 and 15: banks, RAM and clock of the cartridge; saved. */
public final class CartridgeTest {
    private static final int SECOND_DOTS = 4194304;

    public static void main(String[] args) {
        plain();
        imageBanks();
        ramBanks();
        smallRam();
        saved();
        clockRegisters();
        clockLatch();
        clockGoesOn();
        clockCarries();
        Checks.end("CartridgeTest");
    }

    /** Four banks, each with its number at its places 0 and $3FFF. */
    private static Rom banked(int kind, int ram) {
        Rom rom = new Rom(0x10000).kind(kind, ram);
        for (int bank = 1; bank < 4; bank++) {
            rom.put(bank * 0x4000, bank).put(bank * 0x4000 + 0x3FFF, bank);
        }
        return rom;
    }

    private static void plain() {
        HandheldPair x = banked(0, 3).poke(0x2000, 3).poke(0, 10).poke(0xA000, 5).stay().start();
        x.run(200);
        Checks.due("bank 1", x.memory(0, 0x4000), 1);
        Checks.due("bank 1", x.memory(0, 0x7FFF), 1);
        Checks.due("no RAM", x.memory(0, 0xA000), 255);
        Checks.due("LOW", x.about(0, 21), 1);
        Checks.dueThrow("no RAM", IndexOutOfBoundsException.class, () -> x.saved(0, 0));
    }

    private static void dueBank(String what, int kind, int[] pokes, int low, int bank) {
        Rom rom = banked(kind, 0);
        for (int i = 0; i < pokes.length; i += 2) {
            rom.poke(pokes[i], pokes[i + 1]);
        }
        HandheldPair x = rom.stay().start();
        x.run(200);
        Checks.due(what + ": LOW", x.about(0, 21), low);
        Checks.due(what + ": bank", x.memory(0, 0x4000), bank);
        Checks.due(what + ": bank", x.memory(0, 0x7FFF), bank);
        Checks.due(what + ": bank 0", x.memory(0, 0x3FFF), 0);
    }

    private static void imageBanks() {
        dueBank("M1", 1, new int[] {0x2000, 3}, 3, 3);
        dueBank("M1 of 0", 1, new int[] {0x3FFF, 0}, 1, 1);
        dueBank("M1 of 32", 1, new int[] {0x2000, 0xE0}, 1, 1);
        dueBank("M1 modulo 4", 1, new int[] {0x2000, 0xFE}, 30, 2);
        dueBank("M1, HIGH", 1, new int[] {0x2000, 2, 0x4000, 3, 0x6000, 1}, 2, 2);
        dueBank("M1, elsewhere", 1, new int[] {0x1FFF, 3, 0x4000, 2, 0x6000, 3}, 1, 1);
        dueBank("M2", 5, new int[] {0x2100, 3}, 3, 3);
        dueBank("M2, below", 6, new int[] {0x0100, 0xF2}, 2, 2);
        dueBank("M2 of 0", 5, new int[] {0x3F00, 0x10}, 1, 1);
        dueBank("M2, bit 8 clear", 5, new int[] {0x2000, 3, 0x4100, 2}, 1, 1);
        dueBank("M3", 0x11, new int[] {0x2000, 0x83}, 3, 3);
        dueBank("M3 of 0", 0x11, new int[] {0x2000, 0x80}, 1, 1);
        dueBank("M3, 127", 0x13, new int[] {0x3000, 0x7F}, 127, 3);
        dueBank("M5", 0x19, new int[] {0x2000, 0xFE}, 0xFE, 2);
        dueBank("M5 of 0", 0x19, new int[] {0x2FFF, 0}, 0, 0);
        dueBank("M5, bit 8", 0x1E, new int[] {0x3000, 0xFF}, 0x101, 1);
        dueBank("M5, bit 8 gone", 0x1E, new int[] {0x3000, 1, 0x2000, 7, 0x3FFF, 0xFE}, 7, 3);
    }

    /** Writes 1 to 4 at $A000 by HIGH 0 to 3, and looks where they came to. */
    private static void dueRam(String what, int kind, int ram, int mode, int[] want) {
        Rom rom = new Rom().kind(kind, ram).poke(0, 0x0A).poke(0x6000, mode);
        for (int bank = 0; bank < 4; bank++) {
            rom.poke(0x4000, bank).poke(0xA000, bank + 1);
        }
        HandheldPair x = rom.stay().start();
        x.run(800);
        for (int bank = 0; bank < want.length; bank++) {
            Checks.due(what + ", bank " + bank, x.saved(0, bank * 8192), want[bank]);
        }
        Checks.due(what, x.about(0, 22), 3);
        Checks.due(what, x.memory(0, 0xA000), want[want.length - 1] == 0 ? want[0] : want[want.length - 1]);
        Checks.dueThrow(what, IndexOutOfBoundsException.class, () -> x.saved(0, want.length * 8192));
    }

    private static void ramBanks() {
        dueRam("M1, MODE 0", 3, 3, 0, new int[] {4, 0, 0, 0});
        dueRam("M1, MODE 1", 3, 3, 1, new int[] {1, 2, 3, 4});
        dueRam("M1, one bank", 2, 2, 1, new int[] {4});
        dueRam("M3", 0x13, 3, 0, new int[] {1, 2, 3, 4});
        dueRam("M3, one bank", 0x12, 2, 0, new int[] {4});
        dueRam("M5", 0x1B, 3, 0, new int[] {1, 2, 3, 4});
        dueRam("M5, one bank", 0x1A, 2, 0, new int[] {4});
        int[] kinds = {3, 0x13, 0x1B};
        for (int kind : kinds) {
            HandheldPair x = new Rom().kind(kind, 3).poke(0xA000, 7).poke(0, 0x0A).poke(0xBFFF, 8).poke(0, 0).poke(0xBFFF, 9).stay().start();
            x.run(300);
            Checks.due("not ON: not written", x.saved(0, 0), 0);
            Checks.due("ON: written", x.saved(0, 8191), 8);
            Checks.due("not ON: reads $FF", x.memory(0, 0xBFFF), 255);
            HandheldPair y = new Rom().kind(kind, 0).poke(0, 0x0A).poke(0xA000, 7).stay().start();
            y.run(300);
            Checks.due("no RAM", y.memory(0, 0xA000), 255);
            HandheldPair z = new Rom().kind(kind, 2).poke(0x1FFF, 0x3A).poke(0xA000, 7).stay().start();
            z.run(300);
            Checks.due("M5 wants just 10, others four bits", z.memory(0, 0xA000), kind == 0x1B ? 255 : 7);
        }
        HandheldPair x = new Rom().kind(0x1B, 3).poke(0, 10).poke(0x4000, 0x0E).poke(0xA000, 7).stay().start();
        x.run(300);
        Checks.due("M5: HIGH modulo 4", x.saved(0, 2 * 8192), 7);
        Checks.due("M5: HIGH", x.about(0, 22), 14);
        HandheldPair y = new Rom().kind(0x13, 3).poke(0, 10).poke(0x4000, 4).poke(0xA000, 7).stay().start();
        y.run(300);
        Checks.due("M3: HIGH 4 reads $FF", y.memory(0, 0xA000), 255);
        Checks.due("M3: HIGH 4 writes nothing", y.saved(0, 0), 0);
    }

    private static void smallRam() {
        HandheldPair x = new Rom().kind(6, 3).poke(0, 0xFA).poke(0xA1FF, 0x5C).poke(0xA200, 0x73).stay().start();
        x.run(300);
        Checks.due("low four bits", x.saved(0, 511), 0x0C);
        Checks.due("address & 511", x.saved(0, 0), 3);
        Checks.due("read with four set", x.memory(0, 0xA1FF), 0xFC);
        Checks.due("read with four set", x.memory(0, 0xBFFF), 0xFC);
        Checks.due("read with four set", x.memory(0, 0xA002), 0xF0);
        Checks.dueThrow("512 bytes", IndexOutOfBoundsException.class, () -> x.saved(0, 512));
        HandheldPair y = new Rom().kind(6, 0).poke(0x4000, 10).poke(0x7E00, 10).poke(0xA000, 1).stay().start();
        y.run(300);
        Checks.due("from $4000 on nothing", y.memory(0, 0xA000), 255);
        HandheldPair z = new Rom().kind(6, 0).poke(0x3EFF, 10).poke(0xA000, 1).stay().start();
        z.run(300);
        Checks.due("below $4000 ON", z.memory(0, 0xA000), 0xF1);
    }

    private static void saved() {
        HandheldPair x = new Rom().kind(3, 2).poke(0, 10).poke(0xA000, 0xEE).stay().start();
        x.run(100);
        Checks.due("saved", x.saved(0, 0), 0xEE);
        Checks.due("saved", x.saved(0, 8191), 0);
        Checks.dueThrow("saved -1", IndexOutOfBoundsException.class, () -> x.saved(0, -1));
        Checks.dueThrow("saved 8192", IndexOutOfBoundsException.class, () -> x.saved(0, 8192));
        Checks.dueThrow("OFF", IndexOutOfBoundsException.class, () -> x.saved(1, 0));
        Checks.dueThrow("no console", NoSuchElementException.class, () -> x.saved(2, -1));
        Checks.dueThrow("no console", NoSuchElementException.class, () -> x.saved(-1, 0));
    }

    private static int clockByte(HandheldPair x) {
        return x.memory(0, 0xA000);
    }

    private static void clockRegisters() {
        int[] kept = {63, 63, 31, 255, 0xC1};
        for (int k = 0; k < 5; k++) {
            HandheldPair x = new Rom().kind(0x0F, 0).poke(0, 10).poke(0x4000, 8 + k).poke(0xA000, 0xFF).stay().start();
            x.run(300);
            Checks.due("register " + k, clockByte(x), kept[k]);
            HandheldPair y = new Rom().kind(0x0F, 0).poke(0x4000, 8 + k).poke(0xA000, 0xFF).stay().start();
            y.run(300);
            Checks.due("not ON", clockByte(y), 255);
        }
        for (int high = 13; high < 16; high++) {
            HandheldPair x = new Rom().kind(0x10, 3).poke(0, 10).poke(0x4000, high).poke(0xA000, 1).stay().start();
            x.run(300);
            Checks.due("HIGH " + high, clockByte(x), 255);
        }
    }

    private static void clockLatch() {
        // Seconds are written at some time; a latch by 0, 1 shows 1 only behind 4,194,304 DOTS.
        Rom rom = new Rom().kind(0x10, 0).poke(0, 10).poke(0x4000, 8).poke(0xA000, 0);
        int loop = rom.here();
        rom.poke(0x6000, 0).poke(0x6000, 1).code(0xFA, 0, 0xA0, 0xC3, loop, loop >> 8);
        HandheldPair x = rom.start();
        x.run(16 + 24 * 3);
        long written = x.time(0);
        while (x.time(0) < written + SECOND_DOTS - 80000) {
            x.run(80000);
        }
        x.run((int) (written + SECOND_DOTS - 4 - x.count(1)));
        Checks.due("not yet", clockByte(x), 0);
        x.run(200);
        Checks.due("a second", clockByte(x), 1);
        // Without a 0 before it a 1 latches nothing.
        Rom other = new Rom().kind(0x10, 0).poke(0, 10).poke(0x4000, 8).poke(0x6000, 0).poke(0x6000, 1);
        int again = other.here();
        other.poke(0x6000, 1).poke(0x6000, 2).poke(0x6000, 1).code(0xC3, again, again >> 8);
        HandheldPair y = other.start();
        for (int i = 0; i < 54; i++) {
            y.run(80000);
        }
        Checks.due("not latched", clockByte(y), 0);
    }

    /** Sets the clock, lets a second go by, latches, and tells one register. */
    private static int behindASecond(int[] set, int register) {
        Rom rom = new Rom().kind(0x10, 0).poke(0, 10);
        for (int i = 4; i >= 0; i--) {
            rom.poke(0x4000, 8 + i).poke(0xA000, set[i]);
        }
        int loop = rom.here();
        rom.poke(0x6000, 0).poke(0x6000, 1).poke(0x4000, 8 + register).code(0xC3, loop, loop >> 8);
        HandheldPair x = rom.start();
        for (int i = 0; i < 53; i++) {
            x.run(80000);
        }
        return clockByte(x);
    }

    private static void dueClock(String what, int[] set, int[] want) {
        for (int k = 0; k < 5; k++) {
            Checks.due(what + ", register " + k, behindASecond(set, k), want[k]);
        }
    }

    private static void clockGoesOn() {
        dueClock("a second", new int[] {5, 6, 7, 8, 0}, new int[] {6, 6, 7, 8, 0});
        dueClock("stopped", new int[] {5, 6, 7, 8, 0x40}, new int[] {5, 6, 7, 8, 0x40});
    }

    private static void clockCarries() {
        dueClock("a minute", new int[] {59, 6, 7, 8, 0}, new int[] {0, 7, 7, 8, 0});
        dueClock("an hour", new int[] {59, 59, 7, 8, 0}, new int[] {0, 0, 8, 8, 0});
        dueClock("a day", new int[] {59, 59, 23, 8, 0}, new int[] {0, 0, 0, 9, 0});
        dueClock("256 days", new int[] {59, 59, 23, 255, 0}, new int[] {0, 0, 0, 0, 1});
        dueClock("512 days", new int[] {59, 59, 23, 255, 1}, new int[] {0, 0, 0, 0, 0x80});
        dueClock("ran over before", new int[] {59, 59, 23, 1, 0x80}, new int[] {0, 0, 0, 2, 0x80});
        dueClock("seconds beyond", new int[] {63, 6, 7, 8, 0}, new int[] {0, 6, 7, 8, 0});
        dueClock("seconds beyond", new int[] {60, 6, 7, 8, 0}, new int[] {61, 6, 7, 8, 0});
        dueClock("minutes beyond", new int[] {59, 63, 7, 8, 0}, new int[] {0, 0, 7, 8, 0});
        dueClock("hours beyond", new int[] {59, 59, 31, 8, 0}, new int[] {0, 0, 0, 8, 0});
        dueClock("hours beyond", new int[] {59, 59, 24, 8, 0}, new int[] {0, 0, 25, 8, 0});
    }
}
