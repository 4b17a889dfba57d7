/** Promises 9 to 11: the first and the last M-CYCLE of a COPY, its sources' borders, and a COPY begun anew. */
public final class CopyEdgeTest {
    public static void main(String[] args) {
        firstByteBlocksTheProgram();
        readInTheLastCycles();
        writeInTheLastCycles();
        bytesThatAreToCome();
        whatIsBlocked();
        highMemoryIsNot();
        stackIsBlocked();
        interruptIsBlocked();
        sourcePages();
        sourceBanks();
        justAsManyBytes();
        begunAnewMidway();
        begunAnewAtOnce();
        copyWhileTheScreenBlocks();
        copyBeforeTheDots();
        copyOfAFastProcessor();
        Checks.end("CopyEdgeTest");
    }

    /**
     * $C000 to $C09F hold 1, 2, 3 ..; the screen is off. Then the code, brought to $FF80, is
     * jumped to with A the page and HL $C000; its first instruction writes $FF46.
     */
    private static HandheldPair inHigh(int page, int... code) {
        Rom rom = new Rom(0x1000).kind(0x13, 2).colour().ldh(0x40, 0).put(0x80, code)
            .copyLoop(0x80, 0xFF80, code.length).code(0x21, 0x00, 0xC0, 0x06, 0xA0, 0x3E, 0x01, 0x22, 0x3C, 0x05, 0x20, 0xFB)
            .code(0x21, 0x00, 0xC0, 0x3E, page, 0xC3, 0x80, 0xFF);
        HandheldPair x = rom.start();
        int loop = 36 + code.length * 52 - 4;
        int fill = 12 + 8 + 8 + 160 * 28 - 4;
        x.run(16 + 20 + loop + fill + 12 + 8 + 16);
        Checks.due("PC", x.about(0, 9), 0xFF80);
        return x;
    }

    /** From the M-CYCLE after the next on: the program's byte in the next is read, the one behind it is $FF. */
    private static void firstByteBlocksTheProgram() {
        HandheldPair x = new Rom().ldh(0x40, 0).code(0x3E, 0xC0, 0xE0, 0x46, 0x3C, 0x3C, 0x3C).start();
        x.run(16 + 20 + 20);
        Checks.due("all are to come", x.about(0, 23), 160);
        Checks.due("not blocked", x.memory(0, 0x158), 0x3C);
        Go.step(x, 1);
        Checks.due("the next M-CYCLE", x.about(0, 0), 0xC1);
        Checks.due("not blocked", x.memory(0, 0x159), 0x3C);
        Checks.due("none came", x.about(0, 23), 160);
        Go.step(x, 1);
        Checks.due("the one after it reads $FF", x.about(0, 9), 0x38);
        Checks.due("A", x.about(0, 0), 0xC1);
        Checks.due("its four M-CYCLES have a byte each", x.about(0, 23), 156);
    }

    /** Behind the write: so many M-CYCLES, then one more instruction. Loops of B take 4 * B + 1. */
    private static int[] later(int cycles, int... last) {
        int[] code = new int[60];
        int at = 0;
        code[at++] = 0xE0;
        code[at++] = 0x46;
        int rounds = (cycles - 1) / 4;
        code[at++] = 0x06;
        code[at++] = rounds;
        code[at++] = 0x05;
        code[at++] = 0x20;
        code[at++] = 0xFD;
        for (int i = 0; i < cycles - 1 - 4 * rounds; i++) {
            code[at++] = 0x00;
        }
        for (int v : last) {
            code[at++] = v;
        }
        code[at++] = 0x18;
        code[at++] = 0xFE;
        return java.util.Arrays.copyOf(code, at);
    }

    /** The first byte comes 2 M-CYCLES behind the write, the last 161: then none is to come. */
    private static void readInTheLastCycles() {
        int[][] cases = {{159, 255}, {160, 255}, {161, 1}, {162, 1}};
        for (int[] c : cases) {
            HandheldPair x = inHigh(0xC0, later(c[0] - 2, 0x7E));
            x.run(12 + 4 * c[0]);
            Checks.due("read in M-CYCLE " + c[0], x.about(0, 0), c[1]);
        }
        HandheldPair early = inHigh(0xC0, 0xE0, 0x46, 0x7E, 0x18, 0xFE);
        early.run(12 + 8);
        Checks.due("read in M-CYCLE 2", early.about(0, 0), 255);
    }

    private static void writeInTheLastCycles() {
        int[][] cases = {{2, 1}, {159, 1}, {160, 1}, {161, 0xC1}, {162, 0xC1}};
        for (int[] c : cases) {
            int[] code = c[0] == 2 ? new int[] {0xE0, 0x46, 0x77, 0x18, 0xFE} : later(c[0] - 2, 0x77);
            HandheldPair x = inHigh(0xC1, code);
            x.run(1000);
            Checks.due("written in M-CYCLE " + c[0], x.memory(0, 0xC000), c[1]);
        }
    }

    private static void bytesThatAreToCome() {
        HandheldPair x = inHigh(0xC0, 0xE0, 0x46, 0x00, 0x00, 0x00, 0x18, 0xFE);
        Checks.due("before", x.about(0, 23), 0);
        x.run(12);
        Checks.due("behind the write", x.about(0, 23), 160);
        x.run(4);
        Checks.due("behind the next M-CYCLE", x.about(0, 23), 160);
        x.run(4);
        Checks.due("the first came", x.about(0, 23), 159);
        Checks.due("the sprites are blocked", x.memory(0, 0xFE00), 255);
        x.run(4);
        Checks.due("the second came", x.about(0, 23), 158);
        x.run(12 * 52);
        Checks.due("two are left", x.about(0, 23), 2);
        x.run(12);
        Checks.due("none is left", x.about(0, 23), 0);
        x.run(1000);
        Checks.due("none comes again", x.about(0, 23), 0);
    }

    private static void whatIsBlocked() {
        HandheldPair x = inHigh(0xC0, 0xE0, 0x46, 0x00, 0x00, 0x18, 0xFE);
        x.run(16);
        Checks.due("not yet", x.memory(0, 0x0100), 0xC3);
        x.run(4);
        int[] blocked = {0x0000, 0x0100, 0x7FFF, 0x8000, 0x9FFF, 0xA000, 0xC000, 0xDFFF, 0xE000, 0xFDFF, 0xFE00, 0xFE9F, 0xFEA0, 0xFEFF};
        for (int address : blocked) {
            Checks.due("blocked " + Integer.toHexString(address), x.memory(0, address), 255);
        }
        int[][] free = {{0xFF00, 0xCF}, {0xFF40, 0}, {0xFF46, 0xC0}, {0xFF80, 0xE0}, {0xFFFE, 0}, {0xFFFF, 0}};
        for (int[] f : free) {
            Checks.due("free " + Integer.toHexString(f[0]), x.memory(0, f[0]), f[1]);
        }
    }

    private static void highMemoryIsNot() {
        HandheldPair x = inHigh(0xC0, 0xE0, 0x46, 0x3E, 0x5A, 0xE0, 0xF0, 0xE0, 0xFF, 0xEA, 0xFF, 0xFE, 0xEA, 0x00, 0xFF, 0x18, 0xFE);
        x.run(80);
        Checks.due("the COPY goes on", x.about(0, 23) > 0 ? 1 : 0, 1);
        Checks.due("HIGH memory", x.memory(0, 0xFFF0), 0x5A);
        Checks.due("IE", x.memory(0, 0xFFFF), 0x5A);
        Checks.due("P1", x.memory(0, 0xFF00), 0xDF);
    }

    /** 256 * v + k (v from $E0 on: 8,192 less). */
    private static void sourcePages() {
        int[][] cases = {{0xC0, 1, 0xA0}, {0xE0, 1, 0xA0}, {0x0F, 0x29, 0x2A}, {0x7F, 255, 255}, {0x00, 0x27, 0x28}, {0xDF, 0x31, 0x32}, {0xFF, 0x31, 0x32}, {0xDE, 0x33, 0x34}, {0xFE, 0x33, 0x34}, {0x80, 0x35, 0x36}, {0xA0, 0x37, 0x38}};
        for (int[] c : cases) {
            Rom rom = new Rom(0x1000).kind(0x13, 2).colour().put(0, 0x27).put(0x9F, 0x28).put(0xF00, 0x29).put(0xF9F, 0x2A).ldh(0x40, 0).poke(0xDF00, 0x31).poke(0xDF9F, 0x32).poke(0xDE00, 0x33).poke(0xDE9F, 0x34)
                .poke(0x8000, 0x35).poke(0x809F, 0x36).poke(0, 10).poke(0xA000, 0x37).poke(0xA09F, 0x38).poke(0xC000, 1).poke(0xC09F, 0xA0).poke(0xC0A0, 0xA1);
            int[] loop = {0xE0, 0x46, 0x18, 0xFE};
            for (int i = 0; i < 4; i++) {
                rom.ldh(0x80 + i, loop[i]);
            }
            HandheldPair x = rom.code(0x3E, c[0], 0xC3, 0x80, 0xFF).start();
            x.run(1500);
            Checks.due("byte 0 of page " + c[0], x.memory(0, 0xFE00), c[1]);
            Checks.due("byte 159 of page " + c[0], x.memory(0, 0xFE9F), c[2]);
            Checks.due("46", x.memory(0, 0xFF46), c[0]);
        }
    }

    /** 160 of them: the last is byte 159; byte 160 of the source goes nowhere. */
    private static void justAsManyBytes() {
        HandheldPair x = inHigh(0xC0, 0xE0, 0x46, 0x18, 0xFE);
        x.run(1000);
        for (int k = 0; k < 160; k += 3) {
            Checks.due("byte " + k, x.memory(0, 0xFE00 + k), k + 1);
        }
        Checks.due("byte 159", x.memory(0, 0xFE9F), 160);
        Checks.due("behind it", x.memory(0, 0xFEA0), 0);
    }

    /** Until the new one's first byte the old one goes on. */
    private static void begunAnewMidway() {
        // The second write, of the same page, comes 2 + 3 M-CYCLES behind the first.
        HandheldPair x = inHigh(0xC0, 0xE0, 0x46, 0x3E, 0xC1, 0xE0, 0x46, 0x00, 0x00, 0x18, 0xFE);
        x.run(12 + 8 + 12);
        Checks.due("46", x.memory(0, 0xFF46), 0xC1);
        Checks.due("the old one blocks", x.memory(0, 0xC000), 255);
        x.run(4);
        Checks.due("it still does", x.memory(0, 0xC000), 255);
        x.run(4);
        Checks.due("the first of the new one", x.about(0, 23), 159);
        x.run(159 * 4);
        Checks.due("all of the new one", x.about(0, 23), 0);
        Checks.due("byte 0 is the new one's", x.memory(0, 0xFE00), 0);
        Checks.due("byte 4 is the new one's", x.memory(0, 0xFE04), 0);
        // The new one is written so late that the old one ends before it begins: 160 M-CYCLES behind.
        int[] late = later(160 - 5, 0x3E, 0xD0, 0xE0, 0x46);
        HandheldPair y = inHigh(0xC0, late);
        y.run(12 + 160 * 4);
        Checks.due("all of the new one", y.about(0, 23), 160);
        Checks.due("blocked by the old one's last", y.memory(0, 0xC000), 255);
        y.run(1);
        Checks.due("the last of the old one, then two of the new one", y.about(0, 23), 158);
        y.run(1000);
        Checks.due("byte 159 is the new one's", y.memory(0, 0xFE9F), 0);
    }

    private static void begunAnewAtOnce() {
        // LD (C),A twice: the second write comes in the M-CYCLE of the first byte.
        HandheldPair x = inHigh(0xC0, 0x0E, 0x46, 0xE2, 0xE2, 0x00, 0x18, 0xFE);
        x.run(8 + 8 + 8);
        Checks.due("all of the new one", x.about(0, 23), 160);
        x.run(4);
        Checks.due("all of the new one", x.about(0, 23), 160);
        Checks.due("the old one goes on", x.memory(0, 0xC000), 255);
        x.run(1);
        Checks.due("three of the new one", x.about(0, 23), 157);
        x.run(1000);
        Checks.due("byte 2", x.memory(0, 0xFE02), 3);
    }

    /** In an M-CYCLE the COPY's byte comes before the DOTS: Y that comes with dot 80 is chosen, one M-CYCLE later it is not. */
    private static void copyBeforeTheDots() {
        for (int late = 0; late < 2; late++) {
            // Sprite 0 will be Y 20, X 20, tile 1: it holds line 4, of which tile 1 has its first line alone.
            Rom rom = new Rom(0x1000).ldh(0x40, 0).ldh(0x48, 0xE4).poke(0x8010, 0xFF).poke(0xC000, 20).poke(0xC001, 20).poke(0xC002, 1);
            int[] code = {0xE0, 0x46, 0x18, 0xFE};
            for (int i = 0; i < code.length; i++) {
                rom.ldh(0x80 + i, code[i]);
            }
            // The screen is on from some TIME; the write ends 76 DOTS into line 4, its first byte comes with dots 80 to 83.
            rom.ldh(0x40, 0x93).spend(4 * 456 + 76 + 4 * late - 8 - 16 - 12).code(0x3E, 0xC0, 0xC3, 0x80, 0xFF);
            int on = 16 + 40 + 4 * 24 + 4 * 20 + 20;
            HandheldPair x = rom.start();
            Go.toTime(x, on + 4 * 456 + 76 + 4 * late);
            Checks.due("TIME of the write", x.time(0), on + 4 * 456 + 76 + 4 * late);
            Checks.due("dot", x.about(0, 14), 76 + 4 * late);
            x.run(1000);
            Checks.due("the sprite's first line", x.pixel(0, 12, 4), late == 0 ? 1 : 0);
        }
    }

    /** FAST: one byte in each M-CYCLE of two DOTS. */
    private static void copyOfAFastProcessor() {
        Rom rom = new Rom(0x1000).colour().ldh(0x40, 0).poke(0xC000, 0x31).poke(0xC09F, 0x32).ldh(0x80, 0xE0).ldh(0x81, 0x46).ldh(0x82, 0x18).ldh(0x83, 0xFE)
            .ldh(0x4D, 1).code(0x10, 0).code(0x3E, 0xC0, 0xC3, 0x80, 0xFF);
        HandheldPair x = rom.start();
        int begin = 16 + 20 + 48 + 80 + 20 + 4 + 12 + 6;
        x.run(begin);
        Checks.due("TIME", x.time(0), begin);
        Checks.due("all are to come", x.about(0, 23), 160);
        x.run(6);
        Checks.due("two came in three M-CYCLES", x.about(0, 23), 158);
        x.run(6 * 52);
        Checks.due("two are left", x.about(0, 23), 2);
        x.run(6);
        Checks.due("none is left", x.about(0, 23), 0);
        Checks.due("the first", x.memory(0, 0xFE00), 0x31);
        Checks.due("the last", x.memory(0, 0xFE9F), 0x32);
    }

    /** Whatever the screen blocks: VIDEO as source and the sprites' memory, in modes 2 and 3. */
    private static void copyWhileTheScreenBlocks() {
        Rom rom = new Rom(0x1000).ldh(0x40, 0);
        for (int i = 0; i < 8; i++) {
            rom.poke(0x8000 + 20 * i, 0x40 + i);
        }
        int[] loop = {0xE0, 0x46, 0x18, 0xFE};
        for (int i = 0; i < 4; i++) {
            rom.ldh(0x80 + i, loop[i]);
        }
        HandheldPair x = rom.ldh(0x40, 0x91).code(0x3E, 0x80, 0xC3, 0x80, 0xFF).start();
        x.run(16 + 20 + 8 * 24 + 80 + 20 + 8 + 16 + 12 + 162 * 4);
        for (int i = 0; i < 60 && (x.memory(0, 0xFF41) & 3) != 0; i++) {
            x.run(12);
        }
        for (int i = 0; i < 8; i++) {
            Checks.due("byte " + 20 * i, x.memory(0, 0xFE00 + 20 * i), 0x40 + i);
        }
    }

    /** What is pushed to WORK is not written, what is popped from it is $FF; SP goes on. */
    private static void stackIsBlocked() {
        HandheldPair push = inHigh(0xC0, 0xE0, 0x46, 0x31, 0x10, 0xC1, 0xE5, 0x18, 0xFE);
        push.run(1000);
        Checks.due("SP", push.about(0, 8), 0xC10E);
        Checks.due("not written", push.memory(0, 0xC10F) << 8 | push.memory(0, 0xC10E), 0);
        HandheldPair pop = inHigh(0xC0, 0xE0, 0x46, 0x31, 0x00, 0xC0, 0xD1, 0x18, 0xFE);
        pop.run(1000);
        Checks.due("DE", pop.about(0, 4) << 8 | pop.about(0, 5), 0xFFFF);
        Checks.due("SP", pop.about(0, 8), 0xC002);
        HandheldPair call = inHigh(0xC0, 0xE0, 0x46, 0x31, 0x10, 0xC1, 0xCD, 0x90, 0xFF, 0, 0, 0, 0, 0, 0, 0, 0, 0x18, 0xFE);
        call.run(1000);
        Checks.due("PC", call.about(0, 9), 0xFF90);
        Checks.due("not written", call.memory(0, 0xC10F) << 8 | call.memory(0, 0xC10E), 0);
        HandheldPair store = inHigh(0xC0, 0xE0, 0x46, 0x08, 0x20, 0xC1, 0x18, 0xFE);
        store.run(1000);
        Checks.due("SP is not written", store.memory(0, 0xC121) << 8 | store.memory(0, 0xC120), 0);
        HandheldPair high = inHigh(0xC0, 0xE0, 0x46, 0xE5, 0x18, 0xFE);
        high.run(1000);
        Checks.due("HIGH memory is", high.memory(0, 0xFFFD) << 8 | high.memory(0, 0xFFFC), 0xC000);
    }

    /** An interrupt's bytes are not written, either; its place's byte is read as $FF. */
    private static void interruptIsBlocked() {
        HandheldPair x = inHigh(0xC0, 0xE0, 0x46, 0x31, 0x10, 0xC1, 0x3E, 0x01, 0xE0, 0xFF, 0xE0, 0x0F, 0xFB, 0x00, 0x00, 0x18, 0xFE);
        Go.step(x, 7);
        Checks.due("IME", x.about(0, 10), 1);
        Go.step(x, 1);
        Checks.due("the interrupt", x.about(0, 9), 0x40);
        Checks.due("it goes from IF", x.memory(0, 0xFF0F), 0xE0);
        Go.step(x, 1);
        Checks.due("$FF is a call of $38", x.about(0, 9), 0x38);
        Checks.due("SP", x.about(0, 8), 0xC10C);
        x.run(640);
        Checks.due("none is to come", x.about(0, 23), 0);
        Checks.due("nothing was written", x.memory(0, 0xC10F) + x.memory(0, 0xC10E) + x.memory(0, 0xC10D) + x.memory(0, 0xC10C), 0);
    }

    /** What the processor would read then: the banks are those of each byte's M-CYCLE. */
    private static void sourceBanks() {
        // VIDEO bank 1, WORK bank 5, bank 3 of the image, bank 2 of RAM; each other bank holds 0.
        int[][] cases = {{0x80, 0x4F, 1, 0}, {0xD0, 0x70, 5, 1}};
        for (int[] c : cases) {
            Rom rom = new Rom().colour().ldh(0x40, 0).ldh(c[1], c[2]).poke(256 * c[0], 0x61).poke(256 * c[0] + 40, 0x62).poke(256 * c[0] + 159, 0x63);
            HandheldPair x = rom.ldh(0x46, c[0]).code(0x76).start();
            x.run(2000);
            dueBytes("the bank of now", x, 0x61, 0x62, 0x63);
            Rom other = new Rom().colour().ldh(0x40, 0).ldh(c[1], c[2]).poke(256 * c[0], 0x61).poke(256 * c[0] + 159, 0x63).ldh(c[1], c[3]);
            HandheldPair y = other.ldh(0x46, c[0]).code(0x76).start();
            y.run(2000);
            dueBytes("another bank", y, 0, 0, 0);
        }
        Rom image = new Rom(0x10000).kind(0x1B, 3).ldh(0x40, 0).put(0xC000, 0x71).put(0xC000 + 40, 0x72).put(0xC000 + 159, 0x73);
        HandheldPair x = image.poke(0x2000, 3).ldh(0x46, 0x40).code(0x76).start();
        x.run(2000);
        dueBytes("bank 3 of the image", x, 0x71, 0x72, 0x73);
        Rom ram = new Rom().kind(0x1B, 3).ldh(0x40, 0).poke(0, 10).poke(0x4000, 2).poke(0xA000, 0x81).poke(0xA028, 0x82).poke(0xA09F, 0x83);
        HandheldPair y = ram.ldh(0x46, 0xA0).code(0x76).start();
        y.run(2000);
        dueBytes("bank 2 of RAM", y, 0x81, 0x82, 0x83);
        // In HIGH memory SVBK is written while it goes on: from then on the bytes are of bank 5, which holds 0.
        HandheldPair w = inHigh(0xC0, 0x3E, 0x09, 0xEA, 0x00, 0xD0, 0xEA, 0x9F, 0xD0, 0x3E, 0xD0, 0xE0, 0x46, 0x3E, 0x05, 0xE0, 0x70, 0x18, 0xFE);
        w.run(1000);
        dueBytes("changed midway: the first is of bank 1, the last of bank 5", w, 9, 0, 0);
    }

    private static void dueBytes(String what, HandheldPair x, int first, int midst, int last) {
        Checks.due(what + ": the first byte", x.memory(0, 0xFE00), first);
        Checks.due(what + ": byte 40", x.memory(0, 0xFE28), midst);
        Checks.due(what + ": the last byte", x.memory(0, 0xFE9F), last);
    }
}
