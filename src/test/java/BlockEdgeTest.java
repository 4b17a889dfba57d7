/** Promises 9 to 11: BLOCKS of 1 and 128, sources and goals that run over, and slow ones that end or begin anew. */
public final class BlockEdgeTest {
    public static void main(String[] args) {
        oneBlock();
        mostBlocks();
        lowBitsAreCutOff();
        goalHasNineBits();
        goalRunsOver();
        sourceRunsOver();
        sourceComesToVideo();
        sourceComesToEcho();
        sourceOfRam();
        sourceBanks();
        placesStay();
        slowOfOne();
        slowOfMost();
        slowEndsByAWrite();
        slowBegunAnew();
        slowBeginsWithTheNextLine();
        slowWhileItHalts();
        slowNotInTheLastLines();
        blockIgnoresWhatBlocks();
        bankOfThatTime();
        idleCyclesHaveClocks();
        slowWhileTheScreenIsOff();
        slowTurnedOffInModeThree();
        slowWithOneMoreWrite();
        Checks.end("BlockEdgeTest");
    }

    /** The image's bytes from $400 to $FFF are 1 to 251, again and again. */
    private static Rom data(int length) {
        Rom rom = new Rom(length).colour();
        for (int i = 0x400; i < 0x1000; i++) {
            rom.put(i, pattern(i));
        }
        return rom;
    }

    private static int pattern(int address) {
        return address % 251 + 1;
    }

    private static Rom block(Rom rom, int source, int goal, int v) {
        return rom.ldh(0x51, source >> 8).ldh(0x52, source).ldh(0x53, goal >> 8).ldh(0x54, goal).ldh(0x55, v);
    }

    /** The screen off; the write to 55 ends at 136, without the idle M-CYCLES behind it. */
    private static HandheldPair atOnce(Rom rom, int source, int goal, int v) {
        HandheldPair x = block(rom.ldh(0x40, 0), source, goal, v).stay().start();
        x.run(136);
        return x;
    }

    private static void oneBlock() {
        HandheldPair x = atOnce(data(0x1000), 0x400, 0x8000, 0x00);
        Checks.due("8 idle M-CYCLES", x.time(0), 136 + 32);
        Checks.due("the first byte", x.memory(0, 0x8000), pattern(0x400));
        Checks.due("the last byte", x.memory(0, 0x800F), pattern(0x40F));
        Checks.due("behind it", x.memory(0, 0x8010), 0);
        Checks.due("55", x.memory(0, 0xFF55), 0xFF);
        Checks.due("none is to come", x.about(0, 24), 0);
    }

    /** n = (v & 127) + 1: 128 of them are 2,048 bytes. */
    private static void mostBlocks() {
        HandheldPair x = atOnce(data(0x1000), 0x400, 0x8000, 0x7F);
        Checks.due("128 times 8 idle M-CYCLES", x.time(0), 136 + 128 * 32);
        Checks.due("the first byte", x.memory(0, 0x8000), pattern(0x400));
        Checks.due("the last byte", x.memory(0, 0x87FF), pattern(0xBFF));
        Checks.due("behind it", x.memory(0, 0x8800), 0);
        Checks.due("55", x.memory(0, 0xFF55), 0xFF);
        Checks.due("one step", x.count(2), 13);
    }

    /** 16 times (the first two / 16, cut off). */
    private static void lowBitsAreCutOff() {
        HandheldPair x = atOnce(data(0x1000), 0x41F, 0x802F, 0x00);
        Checks.due("source", x.memory(0, 0x8020), pattern(0x410));
        Checks.due("goal", x.memory(0, 0x802F), pattern(0x41F));
        Checks.due("behind it", x.memory(0, 0x8030), 0);
        Checks.due("before it", x.memory(0, 0x801F), 0);
    }

    /** Goal $8000 + 16 times (the others / 16, 9 bits). */
    private static void goalHasNineBits() {
        int[][] goals = {{0x0000, 0x8000}, {0x1FF0, 0x9FF0}, {0x2000, 0x8000}, {0x3FF0, 0x9FF0}, {0xE010, 0x8010}, {0xFFFF, 0x9FF0}, {0x8800, 0x8800}};
        for (int[] g : goals) {
            HandheldPair x = atOnce(data(0x1000), 0x400, g[0], 0x00);
            Checks.due("goal " + Integer.toHexString(g[0]), x.memory(0, g[1]), pattern(0x400));
            Checks.due("goal " + Integer.toHexString(g[0]), x.memory(0, g[1] + 15), pattern(0x40F));
        }
    }

    /** Goal goes on modulo 8,192. */
    private static void goalRunsOver() {
        HandheldPair x = atOnce(data(0x1000), 0x400, 0x9FF0, 0x02);
        Checks.due("$9FFF", x.memory(0, 0x9FFF), pattern(0x40F));
        Checks.due("$8000", x.memory(0, 0x8000), pattern(0x410));
        Checks.due("$801F", x.memory(0, 0x801F), pattern(0x42F));
        Checks.due("$8020", x.memory(0, 0x8020), 0);
        Checks.due("$9FEF", x.memory(0, 0x9FEF), 0);
        Checks.due("$A000 is not VIDEO", x.memory(0, 0xA000), 255);
    }

    /** Source goes on modulo 65,536. */
    private static void sourceRunsOver() {
        Rom rom = data(0x1000).put(0, 0x71).put(15, 0x72).put(16, 0x73);
        HandheldPair x = atOnce(rom, 0xFFF0, 0x8000, 0x02);
        Checks.due("$FFF0", x.memory(0, 0x8000), 255);
        Checks.due("$FFFF", x.memory(0, 0x800F), 255);
        Checks.due("0", x.memory(0, 0x8010), 0x71);
        Checks.due("15", x.memory(0, 0x801F), 0x72);
        Checks.due("16", x.memory(0, 0x8020), 0x73);
    }

    /** From VIDEO: $FF; the borders are $8000 and $A000. */
    private static void sourceComesToVideo() {
        Rom rom = new Rom(0x8000).colour().put(0x7FFF, 0x44).ldh(0x40, 0).poke(0x8000, 0x45).poke(0x800F, 0x46);
        HandheldPair x = block(rom, 0x7FF0, 0x8100, 0x01).stay().start();
        x.run(300);
        Checks.due("$7FFF", x.memory(0, 0x810F), 0x44);
        Checks.due("$8000", x.memory(0, 0x8110), 255);
        Checks.due("$800F", x.memory(0, 0x811F), 255);
        Rom ram = new Rom().kind(3, 2).colour().ldh(0x40, 0).poke(0, 10).poke(0x9FFF, 0x47).poke(0xA000, 0x48);
        HandheldPair y = block(ram, 0x9FF0, 0x8100, 0x01).stay().start();
        y.run(300);
        Checks.due("$9FFF", y.memory(0, 0x810F), 255);
        Checks.due("$A000", y.memory(0, 0x8110), 0x48);
    }

    /** From $E000 on: $FF. */
    private static void sourceComesToEcho() {
        Rom rom = new Rom().colour().ldh(0x40, 0).poke(0xC000, 0x51).poke(0xDFFF, 0x52);
        HandheldPair x = block(rom, 0xDFF0, 0x8100, 0x01).stay().start();
        x.run(300);
        Checks.due("$DFFF", x.memory(0, 0x810F), 0x52);
        Checks.due("$E000", x.memory(0, 0x8110), 255);
        int[] closed = {0xE000, 0xFDF0, 0xFE00, 0xFF00, 0xFF80, 0xFFF0};
        for (int source : closed) {
            HandheldPair y = atOnce(data(0x1000), source, 0x8000, 0);
            Checks.due("from " + Integer.toHexString(source), y.memory(0, 0x8000), 255);
            Checks.due("from " + Integer.toHexString(source), y.memory(0, 0x800F), 255);
        }
    }

    private static void sourceOfRam() {
        Rom rom = new Rom().kind(3, 2).colour().ldh(0x40, 0).poke(0, 10).poke(0xBFFF, 0x61).poke(0xC000, 0x62);
        HandheldPair x = block(rom, 0xBFF0, 0x8100, 0x01).stay().start();
        x.run(320);
        Checks.due("$BFFF", x.memory(0, 0x810F), 0x61);
        Checks.due("$C000", x.memory(0, 0x8110), 0x62);
        Rom off = new Rom().kind(3, 2).colour().ldh(0x40, 0).poke(0xBFFF, 0x61);
        HandheldPair y = block(off, 0xBFF0, 0x8100, 0x00).stay().start();
        y.run(320);
        Checks.due("RAM that is not ON", y.memory(0, 0x810F), 255);
    }

    /** 51 to 54 stay as they were written: a second BLOCK goes from and to the same places. */
    private static void placesStay() {
        HandheldPair x = block(data(0x1000).ldh(0x40, 0), 0x400, 0x8000, 0x01).ldh(0x52, 0x20).ldh(0x55, 0x00).stay().start();
        x.run(300);
        Checks.due("the second from $420", x.memory(0, 0x8000), pattern(0x420));
        Checks.due("to the first goal", x.memory(0, 0x8010), pattern(0x410));
        for (int low = 0x51; low <= 0x54; low++) {
            Checks.due("they read $FF", x.memory(0, 0xFF00 + low), 255);
        }
    }

    /** The screen on: the write ends at 116, mode 0 of line 0 begins with the M-CYCLE that ends at 256. */
    private static HandheldPair slow(int v) {
        return block(data(0x1000), 0x400, 0x8000, v).code(0x76).start();
    }

    private static void slowOfOne() {
        HandheldPair x = slow(0x80);
        x.run(116);
        Checks.due("55: blocks left less 1", x.memory(0, 0xFF55), 0);
        Checks.due("one is to come", x.about(0, 24), 1);
        x.run(136);
        Checks.due("not before mode 0", x.about(0, 24), 1);
        x.run(4);
        Checks.due("copied then", x.about(0, 24), 0);
        Checks.due("55", x.memory(0, 0xFF55), 0xFF);
        Checks.due("its last byte", x.memory(0, 0x800F), pattern(0x40F));
        Checks.due("TIME", x.time(0), 256);
        x.run(1);
        Checks.due("8 idle M-CYCLES before the next one", x.time(0), 256 + 36);
        x.run(1000);
        Checks.due("no more", x.memory(0, 0x8010), 0);
    }

    private static void slowOfMost() {
        HandheldPair x = slow(0xFF);
        x.run(116);
        Checks.due("55", x.memory(0, 0xFF55), 0x7F);
        Checks.due("128 are to come", x.about(0, 24), 128);
        x.run(256 - 116 + 456 * 126);
        Checks.due("127 went", x.about(0, 24), 1);
        Checks.due("55", x.memory(0, 0xFF55), 0);
        x.run(452);
        Checks.due("127 went", x.about(0, 24), 1);
        x.run(40);
        Checks.due("all went", x.about(0, 24), 0);
        Checks.due("55", x.memory(0, 0xFF55), 0xFF);
        Checks.due("the last byte", x.memory(0, 0x87FF), pattern(0xBFF));
        Checks.due("behind it", x.memory(0, 0x8800), 0);
    }

    /** Bit 7 clear: if a slow one is under way it ends (55 reads v with bit 7 set). */
    private static void slowEndsByAWrite() {
        int[] values = {0x00, 0x01, 0x7F};
        for (int v : values) {
            HandheldPair x = block(data(0x1000), 0x400, 0x8000, 0x81).ldh(0x55, v).code(0x76).start();
            x.run(136);
            Checks.due("no BLOCK at once: no idle M-CYCLE", x.time(0), 136);
            Checks.due("it ended", x.about(0, 24), 0);
            Checks.due("55", x.memory(0, 0xFF55), v | 0x80);
            x.run(300);
            Checks.due("mode 0 began", x.memory(0, 0xFF41) & 3, 0);
            Checks.due("nothing was copied", x.memory(0, 0x8000), 0);
            Checks.due("55", x.memory(0, 0xFF55), v | 0x80);
        }
        // With one block left it is under way, too.
        HandheldPair one = block(data(0x1000), 0x400, 0x8000, 0x80).ldh(0x55, 0x03).code(0x76).start();
        one.run(136);
        Checks.due("no idle M-CYCLE", one.time(0), 136);
        Checks.due("55", one.memory(0, 0xFF55), 0x83);
        // When it is done it is no more under way: a write goes at once.
        HandheldPair y = block(data(0x1000), 0x400, 0x8000, 0x80).spend(400).ldh(0x55, 0x00).stay().start();
        y.run(116 + 32 + 420);
        Checks.due("8 idle M-CYCLES", y.time(0), 116 + 32 + 420 + 32);
        Checks.due("55", y.memory(0, 0xFF55), 0xFF);
        // One that was ended is no more under way, either; 55 reads $FF again.
        HandheldPair z = block(data(0x1000), 0x400, 0x8000, 0x81).ldh(0x55, 0x00).ldh(0x55, 0x00).stay().start();
        z.run(156);
        Checks.due("at once", z.time(0), 156 + 32);
        Checks.due("55", z.memory(0, 0xFF55), 0xFF);
        z.run(200);
        Checks.due("copied", z.memory(0, 0x800F), pattern(0x40F));
    }

    /** A new write of either kind ends one under way. */
    private static void slowBegunAnew() {
        HandheldPair x = block(data(0x1000), 0x400, 0x8000, 0x81).ldh(0x52, 0x40).ldh(0x55, 0x83).code(0x76).start();
        x.run(156);
        Checks.due("the new one", x.about(0, 24), 4);
        Checks.due("55", x.memory(0, 0xFF55), 3);
        x.run(200);
        Checks.due("from its own source", x.memory(0, 0x8000), pattern(0x440));
        HandheldPair y = block(data(0x1000), 0x400, 0x8000, 0x83).spend(300).ldh(0x55, 0x80).code(0x76).start();
        y.run(116 + 32 + 320);
        Checks.due("the new one", y.about(0, 24), 1);
        y.run(456);
        Checks.due("it begins at the first goal again", y.memory(0, 0x8010), 0);
        Checks.due("done", y.memory(0, 0xFF55), 0xFF);
    }

    /** Written in mode 0: it waits until mode 0 begins. */
    private static void slowBeginsWithTheNextLine() {
        HandheldPair x = block(new Rom(0x1000).colour().put(0x400, 0x99).spend(300 - 16), 0x400, 0x8000, 0x80).code(0x76).start();
        x.run(400);
        Checks.due("mode 0", x.memory(0, 0xFF41) & 3, 0);
        Checks.due("not yet", x.about(0, 24), 1);
        x.run(456 + 252 - 400);
        Checks.due("not yet", x.about(0, 24), 1);
        x.run(4);
        Checks.due("in the next line", x.about(0, 24), 0);
    }

    private static void slowWhileItHalts() {
        HandheldPair x = slow(0x81);
        x.run(256);
        Checks.due("HALT", x.about(0, 11), 1);
        int steps = x.count(2);
        Checks.due("one step of nine M-CYCLES", x.run(36), 1);
        Checks.due("TIME", x.time(0), 292);
        Checks.due("steps", x.count(2), steps + 1);
    }

    /** Lines 144 to 153 have no mode 0; line 143 has. */
    private static void slowNotInTheLastLines() {
        HandheldPair x = block(data(0x1000).spend(456 * 143 + 100 - 16), 0x400, 0x8000, 0x82).code(0x76).start();
        x.run(456 * 143 + 256);
        Checks.due("line 143", x.about(0, 24), 2);
        x.run(456 * 11 - 8);
        Checks.due("lines 144 to 153", x.about(0, 24), 2);
        x.run(40);
        Checks.due("line 0", x.about(0, 24), 1);
    }

    /** Whatever is blocked by the screen: VIDEO in mode 3 is written all the same; and read by a COPY at work. */
    private static void blockIgnoresWhatBlocks() {
        HandheldPair x = block(data(0x1000), 0x400, 0x8000, 0x00).code(0x76).start();
        x.run(116);
        Checks.due("mode 3", x.memory(0, 0xFF41) & 3, 3);
        Checks.due("blocked for the processor", x.memory(0, 0x8000), 255);
        x.run(200);
        Checks.due("written all the same", x.memory(0, 0x8000), pattern(0x400));
        // In HIGH memory: a COPY is begun, then a BLOCK from WORK, which the COPY blocks.
        Rom rom = new Rom().colour().ldh(0x40, 0).poke(0xC000, 0x81).poke(0xC00F, 0x82).ldh(0x51, 0xC0).ldh(0x52, 0).ldh(0x53, 0).ldh(0x54, 0);
        int[] code = {0xE0, 0x46, 0xAF, 0xE0, 0x55, 0x18, 0xFE};
        for (int i = 0; i < code.length; i++) {
            rom.ldh(0x80 + i, code[i]);
        }
        HandheldPair y = rom.code(0x3E, 0xC1, 0xC3, 0x80, 0xFF).start();
        y.run(16 + 20 + 48 + 80 + 140 + 24 + 12 + 4 + 12);
        Checks.due("the COPY is under way", y.about(0, 23), 160 - 3 - 8);
        y.run(800);
        Checks.due("read all the same", y.memory(0, 0x8000), 0x81);
        Checks.due("read all the same", y.memory(0, 0x800F), 0x82);
    }

    /** Into the current bank of VIDEO, as it is when it is copied. */
    private static void bankOfThatTime() {
        HandheldPair x = block(data(0x1000), 0x400, 0x8000, 0x80).ldh(0x4F, 1).spend(300).stay().start();
        x.run(136 + 32 + 300);
        Checks.due("bank 1", x.memory(0, 0x8000), pattern(0x400));
        HandheldPair y = block(data(0x1000).ldh(0x4F, 1), 0x400, 0x8000, 0x80).ldh(0x4F, 0).spend(300).ldh(0x4F, 1).stay().start();
        y.run(136 + 20 + 32 + 300);
        Checks.due("bank 0", y.memory(0, 0x8000), pattern(0x400));
        y.run(40);
        Checks.due("not bank 1", y.memory(0, 0x8000), 0);
    }

    /** The idle M-CYCLES are M-CYCLES: DIVIDER, TIMA and dot go on in them. */
    private static void idleCyclesHaveClocks() {
        HandheldPair x = atOnce(data(0x1000), 0x400, 0x8000, 0x03);
        Checks.due("DIVIDER", x.about(0, 12), 136 + 4 * 32);
        HandheldPair y = block(data(0x1000).ldh(7, 5), 0x400, 0x8000, 0x01).stay().start();
        y.run(136);
        Checks.due("TIME", y.time(0), 136 + 2 * 32);
        Checks.due("TIMA", y.memory(0, 0xFF05), 200 / 16 - 36 / 16);
        Checks.due("dot", y.about(0, 14), 200);
        HandheldPair z = slow(0x80);
        z.run(292);
        Checks.due("TIME", z.time(0), 292);
        Checks.due("DIVIDER", z.about(0, 12), 292);
        Checks.due("dot", z.about(0, 14), 292);
    }

    /** With LCDC bit 7 clear no mode 0 begins: it waits until a line is drawn again. */
    private static void slowWhileTheScreenIsOff() {
        HandheldPair x = block(data(0x1000).ldh(0x40, 0), 0x400, 0x8000, 0x81).spend(2000).ldh(0x40, 0x91).code(0x76).start();
        x.run(136 + 2000);
        Checks.due("none went", x.about(0, 24), 2);
        Checks.due("no idle M-CYCLE", x.time(0), 136 + 2000);
        Checks.due("nothing was copied", x.memory(0, 0x8000), 0);
        Checks.due("55", x.memory(0, 0xFF55), 1);
        x.run(20 + 252);
        Checks.due("not yet", x.about(0, 24), 2);
        x.run(4);
        Checks.due("one went", x.about(0, 24), 1);
        Checks.due("copied", x.memory(0, 0x8000), pattern(0x400));
    }

    /** A slow one goes on at dot 252 + F, not where mode 3 ends by LCDC's bit 7. */
    private static void slowTurnedOffInModeThree() {
        HandheldPair x = block(data(0x1000), 0x400, 0x8000, 0x81).ldh(0x40, 0x11).ldh(0x40, 0x91).code(0x76).start();
        x.run(116);
        Checks.due("mode 3", x.memory(0, 0xFF41) & 3, 3);
        x.run(20);
        Checks.due("mode 0", x.memory(0, 0xFF41) & 3, 0);
        Checks.due("none went", x.about(0, 24), 2);
        Checks.due("nothing was copied", x.memory(0, 0x8000), 0);
        x.run(20);
        Checks.due("no idle M-CYCLE", x.time(0), 156);
        x.run(252);
        Checks.due("none went", x.about(0, 24), 2);
        x.run(4);
        Checks.due("one went", x.about(0, 24), 1);
    }

    /** The write that ends a slow one comes in the M-CYCLE in which mode 0 begins: that block went, its idle M-CYCLES come. */
    private static void slowWithOneMoreWrite() {
        HandheldPair x = block(data(0x1000), 0x400, 0x8000, 0x82).spend(120).ldh(0x55, 0x05).code(0x76).start();
        x.run(256);
        Checks.due("TIME", x.time(0), 256);
        Checks.due("it ended", x.about(0, 24), 0);
        Checks.due("55", x.memory(0, 0xFF55), 0x85);
        Checks.due("one block went", x.memory(0, 0x800F), pattern(0x40F));
        Checks.due("no more", x.memory(0, 0x8010), 0);
        x.run(1);
        Checks.due("8 idle M-CYCLES, and HALT", x.time(0), 256 + 36);
    }

    /** As the processor would read them: the banks are those of when it is copied. */
    private static void sourceBanks() {
        Rom work = new Rom().colour().ldh(0x40, 0).ldh(0x70, 5).poke(0xD000, 0x61).poke(0xD00F, 0x62);
        dueBlock("WORK bank 5", block(work, 0xD000, 0x8000, 0).code(0x76).start(), 0x61, 0x62);
        Rom other = new Rom().colour().ldh(0x40, 0).ldh(0x70, 5).poke(0xD000, 0x61).poke(0xD00F, 0x62).ldh(0x70, 1);
        dueBlock("WORK bank 1", block(other, 0xD000, 0x8000, 0).code(0x76).start(), 0, 0);
        for (int bank = 2; bank < 4; bank++) {
            Rom image = new Rom(0x10000).kind(0x1B, 3).colour().put(0x8000, 0x71).put(0x800F, 0x72).put(0xC000, 0x73).put(0xC00F, 0x74).ldh(0x40, 0).poke(0x2000, bank);
            dueBlock("bank " + bank + " of the image", block(image, 0x4000, 0x8000, 0).code(0x76).start(), 0x6D + 2 * bank, 0x6E + 2 * bank);
        }
        Rom ram = new Rom().kind(0x1B, 3).colour().ldh(0x40, 0).poke(0, 10).poke(0x4000, 2).poke(0xA000, 0x81).poke(0xA00F, 0x82);
        dueBlock("bank 2 of RAM", block(ram, 0xA000, 0x8000, 0).code(0x76).start(), 0x81, 0x82);
        // A slow one: SVBK is written between the first block and the second.
        Rom slow = new Rom().colour().ldh(0x40, 0).poke(0xD000, 0x91).poke(0xD010, 0x92).ldh(0x70, 5).poke(0xD000, 0x93).poke(0xD010, 0x94).ldh(0x70, 1).ldh(0x40, 0x91);
        HandheldPair x = block(slow, 0xD000, 0x8000, 0x81).spend(200).ldh(0x70, 5).spend(400).ldh(0x40, 0).code(0x76).start();
        x.run(2000);
        Checks.due("both went", x.about(0, 24), 0);
        Checks.due("the first of bank 1, the second of bank 5", x.memory(0, 0x8000) << 8 | x.memory(0, 0x8010), 0x9194);
    }

    private static void dueBlock(String what, HandheldPair x, int first, int last) {
        x.run(600);
        Checks.due(what + ": the first byte", x.memory(0, 0x8000), first);
        Checks.due(what + ": the last byte", x.memory(0, 0x800F), last);
    }
}
