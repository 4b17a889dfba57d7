/** Promises 9 to 11: the idle M-CYCLES of HALT, STOP and STUCK are M-CYCLES: all beside the processor goes on in them. */
public final class WaitingTest {
    private static final int LINE = 456;
    private static final int FRAME = 154 * LINE;
    private static final int STEP = 8192;
    private static final int HALT = 0;
    private static final int STOP = 1;
    private static final int STUCK = 2;

    public static void main(String[] args) {
        for (int kind = HALT; kind <= STUCK; kind++) {
            dividerAndDots(kind);
            timerCounts(kind);
            pictureIsDrawn(kind);
            copyGoesOn(kind);
            blockGoesOn(kind);
            blockWithCopy(kind);
            cableGoesOn(kind);
            otherEndOfTheCable(kind);
            lengthEnds(kind);
            waveIsHeard(kind);
            clockGoesOn(kind);
            keysAsk(kind);
        }
        Checks.end("WaitingTest");
    }

    /** The program waits from here on: the instruction takes one M-CYCLE; STOP makes DIVIDER 0 behind it. */
    private static HandheldPair waiting(int kind, Rom rom) {
        if (kind == HALT) {
            return rom.code(0x76).start();
        }
        return (kind == STOP ? rom.code(0x10, 0x00) : rom.code(0xD3)).start();
    }

    private static String name(int kind) {
        return kind == HALT ? "HALT" : kind == STOP ? "STOP" : "STUCK";
    }

    private static void due(int kind, String what, long got, long want) {
        Checks.due(name(kind) + ": " + what, got, want);
    }

    private static void dividerAndDots(int kind) {
        HandheldPair x = waiting(kind, new Rom());
        x.run(20);
        due(kind, "state", x.about(0, 11), kind + 1);
        due(kind, "DIVIDER", x.about(0, 12), kind == STOP ? 0 : 20);
        due(kind, "one step for each", x.run(980), 245);
        due(kind, "TIME", x.time(0), 1000);
        due(kind, "DIVIDER", x.about(0, 12), kind == STOP ? 980 : 1000);
        due(kind, "LY", x.memory(0, 0xFF44), 2);
        due(kind, "dot", x.about(0, 14), 1000 - 2 * LINE);
        due(kind, "PC", x.about(0, 9), kind == STOP ? 0x152 : 0x151);
    }

    /** TAC is written at 36; the wait begins at 40, where STOP makes DIVIDER's bit 3 fall. */
    private static void timerCounts(int kind) {
        HandheldPair x = waiting(kind, new Rom().ldh(7, 5));
        x.run(200);
        due(kind, "TIMA", x.memory(0, 0xFF05), kind == STOP ? 1 + 160 / 16 : 200 / 16 - 36 / 16);
        x.run(16 * 256);
        due(kind, "interrupt 2", x.memory(0, 0xFF0F), 0xE5);
    }

    private static void pictureIsDrawn(int kind) {
        HandheldPair x = waiting(kind, new Rom().ldh(0x47, 3));
        x.run(FRAME);
        Stage.due(name(kind), x, 0, 0, 3);
        Stage.due(name(kind), x, 159, 143, 3);
        due(kind, "interrupt 0", x.memory(0, 0xFF0F), 0xE1);
    }

    /** The write to 46 ends at 80; the first byte comes with the M-CYCLE that ends at 88, the last one 159 behind it. */
    private static void copyGoesOn(int kind) {
        HandheldPair x = waiting(kind, new Rom().ldh(0x40, 0).poke(0xC09F, 0x77).ldh(0x46, 0xC0));
        x.run(84);
        due(kind, "state", x.about(0, 11), kind + 1);
        due(kind, "all are to come", x.about(0, 23), 160);
        x.run(4 * 159);
        due(kind, "one is to come", x.about(0, 23), 1);
        due(kind, "blocked", x.memory(0, 0xC09F), 255);
        x.run(4);
        due(kind, "none is to come", x.about(0, 23), 0);
        due(kind, "the last byte", x.memory(0, 0xFE9F), 0x77);
    }

    private static Rom slowBlock(int v) {
        return new Rom().colour().put(0x200, 0x31).put(0x21F, 0x32).ldh(0x51, 2).ldh(0x52, 0).ldh(0x53, 0).ldh(0x54, 0).ldh(0x55, v);
    }

    /** One block each time mode 0 begins; the 8 idle M-CYCLES come before the next one of the wait. */
    private static void blockGoesOn(int kind) {
        HandheldPair x = waiting(kind, slowBlock(0x81));
        x.run(256);
        due(kind, "the first went", x.about(0, 24), 1);
        due(kind, "TIME", x.time(0), 256);
        due(kind, "one step", x.run(36), 1);
        due(kind, "of nine M-CYCLES", x.time(0), 292);
        due(kind, "DIVIDER", x.about(0, 12), kind == STOP ? 292 - 120 : 292);
        x.run(LINE + 252 - 292);
        due(kind, "not the second", x.about(0, 24), 1);
        x.run(4);
        due(kind, "the second went", x.about(0, 24), 0);
        due(kind, "the first byte", x.memory(0, 0x8000), 0x31);
        due(kind, "the last byte", x.memory(0, 0x801F), 0x32);
        x.run(100);
        due(kind, "state", x.about(0, 11), kind + 1);
    }

    /** The idle M-CYCLES of a BLOCK have a byte of the COPY each, too. */
    private static void blockWithCopy(int kind) {
        HandheldPair x = waiting(kind, slowBlock(0x80).ldh(0x46, 0xC0));
        x.run(256);
        due(kind, "bytes from 144 on", x.about(0, 23), 160 - (256 - 140) / 4);
        due(kind, "the BLOCK went", x.about(0, 24), 0);
        x.run(1);
        due(kind, "nine M-CYCLES, nine bytes", x.about(0, 23), 160 - (292 - 140) / 4);
    }

    private static void cableGoesOn(int kind) {
        HandheldPair x = waiting(kind, new Rom().ldh(2, 0x81));
        x.run(36 + 8 * 512 - 4);
        due(kind, "BITS", x.about(0, 25), 1);
        x.run(4);
        due(kind, "BITS", x.about(0, 25), 0);
        due(kind, "SB", x.memory(0, 0xFF01), 255);
        due(kind, "interrupt 3", x.memory(0, 0xFF0F), 0xE9);
    }

    private static void otherEndOfTheCable(int kind) {
        HandheldPair x = waiting(kind, new Rom().ldh(1, 0xA5).ldh(2, 0x80));
        new Rom().ldh(1, 0x3C).ldh(2, 0x81).code(0x76).insertInto(x, 1);
        x.run(56 + 8 * 512);
        due(kind, "SB", x.memory(0, 0xFF01), 0x3C);
        due(kind, "SB of the other", x.memory(1, 0xFF01), 0xA5);
        due(kind, "interrupt 3", x.memory(0, 0xFF0F), 0xE9);
    }

    /** LENGTH 1 goes with the first STEP, 8,192 CLOCKS behind DIVIDER 0. */
    private static void lengthEnds(int kind) {
        HandheldPair x = waiting(kind, new Rom().ldh(0x17, 0xF0).ldh(0x16, 0x3F).ldh(0x19, 0xC0));
        int end = kind == STOP ? 80 + STEP : STEP;
        x.run(end - 4);
        due(kind, "ON", x.memory(0, 0xFF26), 0xF2);
        x.run(4);
        due(kind, "not ON", x.memory(0, 0xFF26), 0xF0);
    }

    /** WAVE's first byte is $F0, all others 0; 2,032: 32 DOTS a position; the trigger is written at 136. */
    private static void waveIsHeard(int kind) {
        HandheldPair x = waiting(kind, new Rom().ldh(0x30, 0xF0).ldh(0x1A, 0x80).ldh(0x1C, 0x20).ldh(0x25, 0x44).ldh(0x1D, 0xF0).ldh(0x1E, 0x87));
        int want = 0;
        for (int dot = 192; dot <= 4096; dot += 64) {
            boolean first = (dot - 136) / 32 % 32 == 0;
            want = want * 31 + (first ? 15 * 513 : 0);
        }
        x.run(4096);
        due(kind, "HEARD", x.about(0, 20), want);
        Go.toTime(x, 136 + 5 * 1024);
        due(kind, "LEVEL", x.about(0, 18), 15);
        x.run(28);
        due(kind, "LEVEL", x.about(0, 18), 15);
        x.run(4);
        due(kind, "LEVEL", x.about(0, 18), 0);
    }

    /** The program latches the clock, shows its seconds, and waits; power lets it begin anew, and the clock stay. */
    private static void clockGoesOn(int kind) {
        HandheldPair x = waiting(kind, new Rom().kind(0x0F, 0).poke(0x6000, 0).poke(0x6000, 1).poke(0, 10).poke(0x4000, 8));
        Go.toTime(x, 4194304 - 4);
        x.keep(0);
        long before = x.power(0);
        Go.toTime(x, before + 200);
        due(kind, "seconds before", x.memory(0, 0xA000), 0);
        x.take(0);
        x.run(4);
        long then = x.power(0);
        Go.toTime(x, then + 200);
        due(kind, "seconds then", x.memory(0, 0xA000), 1);
    }

    private static void keysAsk(int kind) {
        HandheldPair x = waiting(kind, new Rom().ldh(0, 0x10));
        x.run(100);
        x.keys(0, 1);
        due(kind, "the half that is not chosen", x.memory(0, 0xFF0F), 0xE1);
        x.keys(0, 0x11);
        due(kind, "interrupt 4", x.memory(0, 0xFF0F), 0xF1);
        due(kind, "it still waits", x.about(0, 11), kind + 1);
    }
}
