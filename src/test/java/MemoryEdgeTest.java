/** Promise 10 and what it tells of: the borders of memory, registers' bits, and what is blocked when. */
public final class MemoryEdgeTest {
    public static void main(String[] args) {
        bordersOfMemory();
        echoOfWork();
        workBanksAndTheirBorders();
        videoBanksAndTheirBorders();
        behindTheSprites();
        highMemoryAndIe();
        registersThatAreNone();
        colourRegistersWithout();
        videoIsBlockedInMode3();
        spritesAreBlockedInModes2And3();
        writesAreBlockedToo();
        programInVideo();
        stackInVideoAndSprites();
        coloursAreBlockedInMode3();
        coloursReadInEachMode();
        indexesRunOver();
        readsLeaveTheIndex();
        lyIsNotWritten();
        statKeepsFourBits();
        Checks.end("MemoryEdgeTest");
    }

    /** Writes its number to each of these, then looks at all of them; the screen is off. */
    private static HandheldPair written(Rom rom, int... addresses) {
        rom.ldh(0x40, 0);
        for (int i = 0; i < addresses.length; i++) {
            rom.poke(addresses[i], i + 1);
        }
        HandheldPair x = rom.stay().start();
        x.run(36 + 24 * addresses.length);
        return x;
    }

    private static void bordersOfMemory() {
        int[] places = {0x8000, 0x9FFF, 0xC000, 0xCFFF, 0xD000, 0xDFFF, 0xFE00, 0xFE9F, 0xFF80, 0xFFFE, 0xFFFF};
        HandheldPair x = written(new Rom(0x8000).put(0x7FFF, 0x7E), places);
        for (int i = 0; i < places.length; i++) {
            Checks.due("at " + Integer.toHexString(places[i]), x.memory(0, places[i]), i + 1);
        }
        int[][] others = {{0x7FFF, 0x7E}, {0x8001, 0}, {0x9FFE, 0}, {0xA000, 255}, {0xBFFF, 255}, {0xC001, 0}, {0xCFFE, 0}, {0xD001, 0}, {0xDFFE, 0}, {0xFE01, 0}, {0xFE9E, 0}, {0xFF81, 0}, {0xFFFD, 0}};
        for (int[] o : others) {
            Checks.due("beside, at " + Integer.toHexString(o[0]), x.memory(0, o[0]), o[1]);
        }
    }

    /** $E000 to $FDFF as $C000 on, both ways. */
    private static void echoOfWork() {
        HandheldPair x = written(new Rom(), 0xE000, 0xEFFF, 0xF000, 0xFDFF, 0xC010, 0xDDFE, 0xDE00);
        int[][] want = {{0xC000, 1}, {0xCFFF, 2}, {0xD000, 3}, {0xDDFF, 4}, {0xE010, 5}, {0xFDFE, 6}, {0xDE00, 7}, {0xFE00, 0},
            {0xE000, 1}, {0xEFFF, 2}, {0xF000, 3}, {0xFDFF, 4}, {0xDFFF, 0}, {0xE001, 0}};
        for (int[] w : want) {
            Checks.due("at " + Integer.toHexString(w[0]), x.memory(0, w[0]), w[1]);
        }
    }

    /** With COLOUR bank SVBK & 7 (1 for 0), of 4,096 bytes each; the echo has it, too. */
    private static void workBanksAndTheirBorders() {
        Rom rom = new Rom(0x800).colour();
        for (int bank = 0; bank < 8; bank++) {
            rom.ldh(0x70, bank).poke(0xD000, 0x10 + bank).poke(0xFDFF, 0x20 + bank).poke(0xDFFF, 0x30 + bank);
        }
        for (int bank = 0; bank < 8; bank++) {
            rom.ldh(0x70, 8 * bank + bank).peek(0xF000, 0x80 + bank).peek(0xDDFF, 0x88 + bank).peek(0xDFFF, 0x90 + bank);
        }
        HandheldPair x = rom.stay().start();
        x.run(4000);
        for (int bank = 0; bank < 8; bank++) {
            int kept = Math.max(bank, 1);
            Checks.due("$D000 of bank " + bank, x.memory(0, 0xFF80 + bank), 0x10 + kept);
            Checks.due("$DDFF of bank " + bank, x.memory(0, 0xFF88 + bank), 0x20 + kept);
            Checks.due("$DFFF of bank " + bank, x.memory(0, 0xFF90 + bank), 0x30 + kept);
        }
        Checks.due("bank 0 is $C000 alone", x.memory(0, 0xC000), 0);
        Checks.due("bank 0 is $C000 alone", x.memory(0, 0xCFFF), 0);
        Checks.due("SVBK", x.memory(0, 0xFF70), 0xFF);
    }

    private static void videoBanksAndTheirBorders() {
        HandheldPair x = new Rom(0x800).colour().ldh(0x40, 0).poke(0x8000, 1).poke(0x9FFF, 2).ldh(0x4F, 1).peek(0x8000, 0x80).poke(0x8000, 3).poke(0x9FFF, 4)
            .ldh(0x4F, 2).peek(0x8000, 0x81).peek(0x9FFF, 0x82).ldh(0x4F, 3).peek(0x8000, 0x83).peek(0x9FFF, 0x84).stay().start();
        x.run(600);
        int[] want = {0, 1, 2, 3, 4};
        for (int i = 0; i < want.length; i++) {
            Checks.due("VIDEO " + i, x.memory(0, 0xFF80 + i), want[i]);
        }
        Checks.due("VBK", x.memory(0, 0xFF4F), 0xFF);
    }

    /** To $FEFF reads 0, writes nothing. */
    private static void behindTheSprites() {
        HandheldPair x = written(new Rom(), 0xFEA0, 0xFEFF, 0xFE9F);
        Checks.due("$FE9F", x.memory(0, 0xFE9F), 3);
        for (int address = 0xFEA0; address < 0xFF00; address += 5) {
            Checks.due("at " + Integer.toHexString(address), x.memory(0, address), 0);
        }
        HandheldPair y = new Rom().stay().start();
        for (int i = 0; i < 40; i++) {
            Checks.due("in every mode", y.memory(0, 0xFEA0), 0);
            y.run(12);
        }
    }

    private static void highMemoryAndIe() {
        HandheldPair x = new Rom(0x1000).code(0x21, 0x80, 0xFF, 0x7D, 0x22, 0x7D, 0xFE, 0xFF, 0x20, 0xF9).ldh(0xFF, 0xFF).stay().start();
        x.run(6000);
        for (int i = 0x80; i < 0xFF; i += 3) {
            Checks.due("HIGH " + i, x.memory(0, 0xFF00 + i), i);
        }
        Checks.due("$FFFE", x.memory(0, 0xFFFE), 0xFE);
        Checks.due("IE has eight bits", x.memory(0, 0xFFFF), 0xFF);
    }

    /** Others read $FF and are not written. */
    private static void registersThatAreNone() {
        int[] none = {0x03, 0x08, 0x09, 0x0A, 0x0B, 0x0C, 0x0D, 0x0E, 0x15, 0x1F, 0x27, 0x28, 0x2F, 0x4C, 0x4E, 0x50, 0x56, 0x57, 0x60, 0x67, 0x6C, 0x6F, 0x71, 0x72, 0x7F};
        for (int colour = 0; colour < 2; colour++) {
            Rom rom = new Rom();
            if (colour == 1) {
                rom.colour();
            }
            for (int low : none) {
                rom.ldh(low, 0);
            }
            HandheldPair x = rom.stay().start();
            x.run(16 + 20 * none.length);
            for (int low : none) {
                Checks.due("register " + Integer.toHexString(low), x.memory(0, 0xFF00 + low), 255);
            }
        }
    }

    private static void colourRegistersWithout() {
        int[] none = {0x4D, 0x4F, 0x51, 0x52, 0x53, 0x54, 0x55, 0x68, 0x69, 0x6A, 0x6B, 0x70};
        Rom rom = new Rom().ldh(0x40, 0).poke(0x8000, 7).poke(0xD000, 8);
        for (int low : none) {
            rom.ldh(low, 0x02);
        }
        HandheldPair x = rom.stay().start();
        x.run(36 + 48 + 20 * none.length);
        for (int low : none) {
            Checks.due("register " + Integer.toHexString(low), x.memory(0, 0xFF00 + low), 255);
        }
        Checks.due("no BLOCK", x.memory(0, 0x8000), 7);
        Checks.due("no banks", x.memory(0, 0xD000), 8);
        Checks.due("TIME", x.time(0), 84 + 20 * none.length);
    }

    /** In HALT, so that each step has four DOTS: mode 3 from dot 80 to 251. */
    private static HandheldPair lit() {
        return new Rom().ldh(0x40, 0).poke(0x8000, 0x12).poke(0x9FFF, 0x13).poke(0xFE00, 0x14).poke(0xFE9F, 0x15).ldh(0x40, 0x91).code(0x76).start();
    }

    private static final int LIT = 16 + 20 + 4 * 24 + 20;

    private static void dueSeen(int dots, boolean video, boolean sprites) {
        HandheldPair x = lit();
        x.run(LIT + dots);
        Checks.due("$8000 at " + dots, x.memory(0, 0x8000), video ? 0x12 : 255);
        Checks.due("$9FFF at " + dots, x.memory(0, 0x9FFF), video ? 0x13 : 255);
        Checks.due("$FE00 at " + dots, x.memory(0, 0xFE00), sprites ? 0x14 : 255);
        Checks.due("$FE9F at " + dots, x.memory(0, 0xFE9F), sprites ? 0x15 : 255);
        Checks.due("$7FFF and $A000 are never blocked", x.memory(0, 0x7FFF) + x.memory(0, 0xA000), 510);
        Checks.due("$FDFF and $FEA0 are never blocked", x.memory(0, 0xFDFF) + x.memory(0, 0xFEA0), 0);
    }

    private static void videoIsBlockedInMode3() {
        dueSeen(0, true, true);
        dueSeen(80, true, false);
        dueSeen(84, false, false);
        dueSeen(252, false, false);
        dueSeen(256, true, true);
        dueSeen(456, true, true);
    }

    private static void spritesAreBlockedInModes2And3() {
        dueSeen(4, true, false);
        dueSeen(460, true, false);
        dueSeen(143 * 456 + 252, false, false);
        dueSeen(143 * 456 + 256, true, true);
        dueSeen(144 * 456 + 4, true, true);
        dueSeen(153 * 456 + 252, true, true);
    }

    /** What is blocked is not written: the write ends with this DOT of line 0. */
    private static void dueWritten(int dots, int address, boolean kept) {
        HandheldPair x = new Rom().ldh(0x40, 0).ldh(0x40, 0x91).spend(dots - 24).poke(address, 0x77).code(0x76).start();
        x.run(56 + dots);
        Checks.due("TIME", x.time(0), 56 + dots);
        x.run(300 - dots);
        Checks.due("mode 0", x.memory(0, 0xFF41) & 3, 0);
        Checks.due("at " + Integer.toHexString(address) + " by " + dots, x.memory(0, address), kept ? 0x77 : 0);
    }

    private static void writesAreBlockedToo() {
        dueWritten(80, 0x8000, true);
        dueWritten(84, 0x8000, false);
        dueWritten(84, 0x9FFF, false);
        dueWritten(252, 0x9FFF, false);
        dueWritten(256, 0x9FFF, true);
        dueWritten(24, 0xFE00, false);
        dueWritten(252, 0xFE9F, false);
        dueWritten(256, 0xFE9F, true);
        dueWritten(100, 0xC000, true);
        dueWritten(100, 0xFF80, true);
    }

    /** 69 and 6B: blocked in mode 3 (the index goes on all the same). */
    private static void coloursAreBlockedInMode3() {
        int[] firsts = {0x68, 0x6A};
        int[][] cases = {{80, 1}, {84, 0}, {252, 0}, {256, 1}};
        for (int low : firsts) {
            for (int[] c : cases) {
                HandheldPair x = new Rom().colour().ldh(0x40, 0).ldh(low, 0xBF).ldh(0x40, 0x91).spend(c[0] - 20).ldh(low + 1, 0x31).nops(50).ldh(low, 0x3F).code(0x76).start();
                x.run(76 + c[0]);
                Checks.due("the index goes on", x.memory(0, 0xFF00 + low), 0xC0);
                Checks.due("read in mode 3", x.memory(0, 0xFF01 + low), 255);
                x.run(330);
                for (int i = 0; i < 40 && (x.memory(0, 0xFF41) & 3) == 3; i++) {
                    x.run(12);
                }
                Checks.due("written by " + c[0], x.memory(0, 0xFF01 + low), c[1] == 1 ? 0x31 : 255);
            }
        }
    }

    /** Read, they are $FF in mode 3 alone. */
    private static void coloursReadInEachMode() {
        int[] firsts = {0x68, 0x6A};
        int[][] cases = {{4, 0x21}, {80, 0x21}, {84, 255}, {252, 255}, {256, 0x21}, {456, 0x21}, {460, 0x21}, {144 * 456 + 100, 0x21}};
        for (int low : firsts) {
            for (int[] c : cases) {
                HandheldPair x = new Rom().colour().ldh(0x40, 0).ldh(low, 0x05).ldh(low + 1, 0x21).ldh(0x40, 0x91).code(0x76).start();
                x.run(96 + c[0]);
                Checks.due("read behind " + c[0], x.memory(0, 0xFF01 + low), c[1]);
                Checks.due("the index is not blocked", x.memory(0, 0xFF00 + low), 0x45);
            }
        }
    }

    /** A write with bit 7 set makes the index one more (modulo 64). */
    private static void indexesRunOver() {
        int[] firsts = {0x68, 0x6A};
        for (int low : firsts) {
            HandheldPair x = new Rom().colour().ldh(0x40, 0).ldh(low, 0xBE).ldh(low + 1, 0x11).ldh(low + 1, 0x12).ldh(low + 1, 0x13)
                .ldh(low, 0x3F).ldh(low + 1, 0x14).ldh(low + 1, 0x15).ldh(low, 0x00).ldh(low, 0x3E).ldh(low, 0xFF).ldh(low, 0x40).stay().start();
            int[] indexes = {0xFE, 0xFF, 0xC0, 0xC1, 0x7F, 0x7F, 0x7F, 0x40, 0x7E, 0xFF, 0x40};
            int[] bytes = {255, 255, 255, 255, 0x12, 0x14, 0x15, 0x13, 0x11, 0x15, 0x13};
            x.run(36);
            for (int i = 0; i < indexes.length; i++) {
                x.run(20);
                Checks.due("index behind write " + i, x.memory(0, 0xFF00 + low), indexes[i]);
                Checks.due("the byte there behind write " + i, x.memory(0, 0xFF01 + low), bytes[i]);
            }
            Checks.due("the other index", x.memory(0, 0xFF68 + 0x6A - low), 0x40);
            Checks.due("the other colours", x.memory(0, 0xFF69 + 0x6A - low), 255);
        }
    }

    private static void readsLeaveTheIndex() {
        HandheldPair x = new Rom().colour().ldh(0x40, 0).ldh(0x68, 0x85).peek(0xFF69, 0x80).peek(0xFF69, 0x81).stay().start();
        x.run(200);
        Checks.due("index", x.memory(0, 0xFF68), 0xC5);
        x.memory(0, 0xFF69);
        Checks.due("index", x.memory(0, 0xFF68), 0xC5);
    }

    private static void lyIsNotWritten() {
        HandheldPair x = new Rom().spend(1000).ldh(0x44, 99).code(0x76).start();
        x.run(1036);
        Checks.due("LY", x.memory(0, 0xFF44), 2);
        x.run(456);
        Checks.due("LY", x.memory(0, 0xFF44), 3);
    }

    /** STAT: bits 3 to 6 written, 0, 1 the mode, 2 LY is LYC; mask $80. */
    private static void statKeepsFourBits() {
        int[] values = {0x00, 0x07, 0x08, 0x40, 0x78, 0x80, 0xFF};
        for (int v : values) {
            HandheldPair x = new Rom().ldh(0x41, v).ldh(0x45, 1).code(0x76).start();
            x.run(56);
            Checks.due("STAT of " + v + " in mode 2", x.memory(0, 0xFF41), 0x82 | v & 0x78);
            x.run(400);
            Checks.due("STAT of " + v + ", LY is LYC", x.memory(0, 0xFF41), 0x84 | v & 0x78);
        }
    }

    /** A program in VIDEO: its bytes are read as $FF in mode 3, too, which is a call of $38. */
    private static void programInVideo() {
        Rom rom = new Rom().put(0x38, 0x18, 0xFE).ldh(0x40, 0).poke(0x8000, 0x3C).poke(0x8001, 0x18).poke(0x8002, 0xFD);
        HandheldPair x = rom.ldh(0x40, 0x91).code(0x3E, 0x00, 0xC3, 0x00, 0x80).start();
        int on = 16 + 20 + 72 + 20;
        x.run(on + 24);
        Checks.due("PC", x.about(0, 9), 0x8000);
        x.run(16);
        Checks.due("a round", x.about(0, 0), 1);
        Checks.due("PC", x.about(0, 9), 0x8000);
        Go.toTime(x, on + 76);
        Checks.due("until mode 3 it goes on", x.about(0, 0), 4);
        Go.toTime(x, on + 100);
        Checks.due("in mode 3", x.memory(0, 0xFF41) & 3, 3);
        Checks.due("SP", x.about(0, 8), 0xFFFC);
        Checks.due("at $38", x.about(0, 9) & 0xFFF8, 0x38);
    }

    /** What is pushed to VIDEO in mode 3 is not written, what is popped is $FF; so with the sprites in modes 2 and 3. */
    private static void stackInVideoAndSprites() {
        int[][] cases = {{0x9000, 100, 0}, {0x9000, 40, 1}, {0x9000, 300, 1}, {0xFE50, 40, 0}, {0xFE50, 100, 0}, {0xFE50, 300, 1}};
        for (int[] c : cases) {
            Rom rom = new Rom().ldh(0x40, 0).code(0x31, c[0], c[0] >> 8, 0x01, 0x56, 0x34).ldh(0x40, 0x91).spend(c[1] - 16).code(0x01, 0x56, 0x34, 0xC5);
            HandheldPair x = rom.code(0xD1).ldh(0x40, 0).code(0x76).start();
            x.run(2000);
            String what = "stack at " + Integer.toHexString(c[0]) + " behind " + c[1] + " DOTS";
            int there = x.memory(0, c[0] - 2) | x.memory(0, c[0] - 1) << 8;
            Checks.due(what, there, c[2] == 1 ? 0x3456 : 0);
            Checks.due(what + ": popped", x.about(0, 4) << 8 | x.about(0, 5), c[2] == 1 ? 0x3456 : 0xFFFF);
            Checks.due("SP", x.about(0, 8), c[0]);
        }
    }
}
