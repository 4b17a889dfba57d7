import java.util.NoSuchElementException;

/** Promises 10 memory, 11 about and 12 time: wrong inputs, the layout of memory, and registers' masks. */
public final class MemoryTest {
    public static void main(String[] args) {
        wrongInputs();
        sixteenBits();
        layout();
        workBanks();
        videoBanks();
        registersWithoutColour();
        registersWithColour();
        colourIndexes();
        nothingGoesOn();
        Checks.end("MemoryTest");
    }

    private static void wrongInputs() {
        HandheldPair x = new Rom().start();
        int[] consoles = {-1, 2, Integer.MAX_VALUE};
        for (int c : consoles) {
            Checks.dueThrow("memory", NoSuchElementException.class, () -> x.memory(c, 0));
            Checks.dueThrow("about", NoSuchElementException.class, () -> x.about(c, 0));
            Checks.dueThrow("about, both wrong", NoSuchElementException.class, () -> x.about(c, 26));
            Checks.dueThrow("time", NoSuchElementException.class, () -> x.time(c));
        }
        int[] whats = {-1, 26, Integer.MIN_VALUE};
        for (int what : whats) {
            Checks.dueThrow("about", IllegalArgumentException.class, () -> x.about(0, what));
            Checks.dueThrow("about, OFF", IllegalArgumentException.class, () -> x.about(1, what));
        }
    }

    private static void sixteenBits() {
        HandheldPair x = new Rom().start();
        Checks.due("16 low bits", x.memory(0, 0x10100), 0xC3);
        Checks.due("16 low bits", x.memory(0, -0xFF00), 0xC3);
        Checks.due("IE", x.memory(0, -1), 0);
    }

    private static void layout() {
        HandheldPair x = new Rom(0x800).ldh(0x40, 0).poke(0xC123, 1).poke(0xD123, 2).poke(0xE124, 3).poke(0xF124, 4).poke(0xFDFF, 5)
            .poke(0xFE00, 6).poke(0xFE9F, 7).poke(0xFEA0, 8).poke(0xFF80, 9).poke(0xFFFE, 10).poke(0xFFFF, 0xE0).poke(0x8000, 11).poke(0x9FFF, 12)
            .poke(0xCFFF, 13).poke(0xD000, 14).poke(0xDFFF, 15).stay().start();
        x.run(1000);
        int[][] want = {{0xC123, 1}, {0xE123, 1}, {0xD123, 2}, {0xF123, 2}, {0xC124, 3}, {0xE124, 3}, {0xD124, 4}, {0xDDFF, 5}, {0xFDFF, 5},
            {0xFE00, 6}, {0xFE9F, 7}, {0xFEA0, 0}, {0xFEFF, 0}, {0xFF80, 9}, {0xFFFE, 10}, {0xFFFF, 0xE0}, {0x8000, 11}, {0x9FFF, 12}, {0x0100, 0xC3},
            {0xCFFF, 13}, {0xD000, 14}, {0xDFFF, 15}, {0xEFFF, 13}, {0xC000, 0}};
        for (int[] w : want) {
            Checks.due("at " + Integer.toHexString(w[0]), x.memory(0, w[0]), w[1]);
        }
    }

    private static void workBanks() {
        Rom rom = new Rom().colour();
        for (int bank = 0; bank < 8; bank++) {
            rom.ldh(0x70, bank).poke(0xD010, 0x20 + bank);
        }
        for (int bank = 0; bank < 8; bank++) {
            rom.ldh(0x70, 0xF8 | bank).peek(0xD010, 0x80 + bank);
        }
        HandheldPair x = rom.stay().start();
        x.run(2000);
        for (int bank = 0; bank < 8; bank++) {
            Checks.due("bank " + bank, x.memory(0, 0xFF80 + bank), 0x20 + Math.max(bank, 1));
        }
        Checks.due("SVBK", x.memory(0, 0xFF70), 0xFF);
        Checks.due("$C000 is bank 0", x.memory(0, 0xC010), 0);
        HandheldPair y = new Rom().ldh(0x70, 3).poke(0xD000, 1).ldh(0x70, 1).stay().start();
        y.run(200);
        Checks.due("no banks without COLOUR", y.memory(0, 0xD000), 1);
        Checks.due("SVBK without COLOUR", y.memory(0, 0xFF70), 255);
    }

    private static void videoBanks() {
        HandheldPair x = new Rom().colour().ldh(0x40, 0).poke(0x8005, 1).ldh(0x4F, 0xFF).poke(0x8005, 2).peek(0x8005, 0x80)
            .ldh(0x4F, 0xFE).peek(0x8005, 0x81).stay().start();
        x.run(400);
        Checks.due("bank 1", x.memory(0, 0xFF80), 2);
        Checks.due("bank 0", x.memory(0, 0xFF81), 1);
        Checks.due("VBK", x.memory(0, 0xFF4F), 0xFE);
        HandheldPair y = new Rom().ldh(0x40, 0).poke(0x8005, 1).ldh(0x4F, 1).stay().start();
        y.run(400);
        Checks.due("one bank without COLOUR", y.memory(0, 0x8005), 1);
        Checks.due("VBK without COLOUR", y.memory(0, 0xFF4F), 0xFF);
    }

    /** Writes v to a register; what is read then. */
    private static int through(boolean colour, int low, int v) {
        Rom rom = new Rom();
        if (colour) {
            rom.colour();
        }
        HandheldPair x = rom.ldh(0x40, 0).ldh(low, v).stay().start();
        x.run(76 - 20);
        return x.memory(0, 0xFF00 + low);
    }

    private static void dueRegister(boolean colour, int low, int onZero, int onOnes) {
        String what = "register " + Integer.toHexString(low) + (colour ? " with COLOUR" : "");
        Checks.due(what + " of 0", through(colour, low, 0), onZero);
        Checks.due(what + " of $FF", through(colour, low, 0xFF), onOnes);
    }

    private static final int[][] COMMON = {
        {0x00, 0xCF, 0xFF}, {0x01, 0, 0xFF}, {0x03, 0xFF, 0xFF}, {0x04, 0, 0}, {0x05, 0, 0xFF}, {0x06, 0, 0xFF},
        {0x07, 0xF8, 0xFF}, {0x08, 0xFF, 0xFF}, {0x0E, 0xFF, 0xFF}, {0x0F, 0xE0, 0xFF},
        {0x10, 0x80, 0xFF}, {0x11, 0x3F, 0xFF}, {0x12, 0, 0xFF}, {0x13, 0xFF, 0xFF}, {0x14, 0xBF, 0xFF}, {0x15, 0xFF, 0xFF},
        {0x16, 0x3F, 0xFF}, {0x17, 0, 0xFF}, {0x18, 0xFF, 0xFF}, {0x19, 0xBF, 0xFF}, {0x1A, 0x7F, 0xFF}, {0x1B, 0xFF, 0xFF},
        {0x1C, 0x9F, 0xFF}, {0x1D, 0xFF, 0xFF}, {0x1E, 0xBF, 0xFF}, {0x1F, 0xFF, 0xFF}, {0x20, 0xFF, 0xFF}, {0x21, 0, 0xFF},
        {0x22, 0, 0xFF}, {0x23, 0xBF, 0xFF}, {0x24, 0, 0xFF}, {0x25, 0, 0xFF}, {0x26, 0x70, 0xF0}, {0x27, 0xFF, 0xFF}, {0x2F, 0xFF, 0xFF},
        {0x30, 0, 0xFF}, {0x3F, 0, 0xFF}, {0x40, 0, 0xFF}, {0x41, 0x84, 0xFC}, {0x42, 0, 0xFF}, {0x43, 0, 0xFF}, {0x44, 0, 0},
        {0x45, 0, 0xFF}, {0x46, 0, 0xFF}, {0x47, 0, 0xFF}, {0x48, 0, 0xFF}, {0x49, 0, 0xFF}, {0x4A, 0, 0xFF}, {0x4B, 0, 0xFF},
        {0x4C, 0xFF, 0xFF}, {0x4E, 0xFF, 0xFF}, {0x50, 0xFF, 0xFF}, {0x56, 0xFF, 0xFF}, {0x67, 0xFF, 0xFF}, {0x6C, 0xFF, 0xFF},
        {0x6F, 0xFF, 0xFF}, {0x71, 0xFF, 0xFF}, {0x7F, 0xFF, 0xFF}, {0x80, 0, 0xFF}, {0xFE, 0, 0xFF}, {0xFF, 0, 0xFF}};

    private static void registersWithoutColour() {
        for (int[] r : COMMON) {
            dueRegister(false, r[0], r[1], r[2]);
        }
        dueRegister(false, 0x02, 0x7E, 0xFF);
        int[] none = {0x4D, 0x4F, 0x51, 0x52, 0x53, 0x54, 0x55, 0x68, 0x69, 0x6A, 0x6B, 0x70};
        for (int low : none) {
            dueRegister(false, low, 0xFF, 0xFF);
        }
    }

    private static void registersWithColour() {
        for (int[] r : COMMON) {
            dueRegister(true, r[0], r[1], r[2]);
        }
        int[][] more = {{0x02, 0x7C, 0xFF}, {0x4D, 0x7E, 0x7F}, {0x4F, 0xFE, 0xFF}, {0x51, 0xFF, 0xFF}, {0x52, 0xFF, 0xFF}, {0x53, 0xFF, 0xFF},
            {0x54, 0xFF, 0xFF}, {0x55, 0xFF, 0x7F}, {0x68, 0x40, 0xFF}, {0x69, 0, 0xFF}, {0x6A, 0x40, 0xFF}, {0x6B, 0, 0xFF}, {0x70, 0xF8, 0xFF}};
        for (int[] r : more) {
            dueRegister(true, r[0], r[1], r[2]);
        }
    }

    private static void colourIndexes() {
        int[] firsts = {0x68, 0x6A};
        for (int low : firsts) {
            HandheldPair x = new Rom().colour().ldh(0x40, 0).ldh(low, 0xBE).ldh(low + 1, 0x11).ldh(low + 1, 0x22).ldh(low + 1, 0x33)
                .ldh(low, 0x3E).ldh(low + 1, 0x44).ldh(low + 1, 0x45).stay().start();
            x.run(56);
            Checks.due("index", x.memory(0, 0xFF00 + low), 0xFE);
            x.run(40);
            Checks.due("index modulo 64", x.memory(0, 0xFF00 + low), 0xC0);
            x.run(20);
            Checks.due("index", x.memory(0, 0xFF00 + low), 0xC1);
            Checks.due("the byte there", x.memory(0, 0xFF01 + low), 0xFF);
            x.run(100);
            Checks.due("no bit 7: the index stays", x.memory(0, 0xFF00 + low), 0x7E);
            Checks.due("the byte there", x.memory(0, 0xFF01 + low), 0x45);
        }
        // Mode 3 lasts from dot 80 to dot 251: the second write falls into it.
        HandheldPair x = new Rom().colour().ldh(0x68, 0x80).nops(10).ldh(0x69, 0x12).nops(60).ldh(0x68, 0).stay().start();
        x.run(96);
        Checks.due("mode 3", x.memory(0, 0xFF41) & 3, 3);
        Checks.due("the index goes on", x.memory(0, 0xFF68), 0xC1);
        Checks.due("blocked", x.memory(0, 0xFF69), 0xFF);
        x.run(300);
        Checks.due("not written", x.memory(0, 0xFF69), 0xFF);
        Checks.due("index", x.memory(0, 0xFF68), 0x40);
    }

    private static void nothingGoesOn() {
        HandheldPair x = new Rom().kind(0x13, 3).colour().stay().start();
        x.run(1000);
        long time = x.time(0);
        int divider = x.about(0, 12);
        for (int address = 0xFF00; address < 0x10000; address++) {
            x.memory(0, address);
        }
        Checks.due("TIME", x.time(0), time);
        Checks.due("DIVIDER", x.about(0, 12), divider);
        Checks.due("of a fresh one", x.time(1), 0);
    }
}
