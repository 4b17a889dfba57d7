/** Promises 9 to 11: PC, SP, pairs and addresses that run over; bytes at their limits. */
public final class ProcessorEdgeTest {
    public static void main(String[] args) {
        pcRunsOver();
        operandsRunOver();
        callsRunOver();
        jumpsRunOver();
        stopRunsOver();
        spRunsOverDown();
        spRunsOverUp();
        spIsWrittenAcrossTheEnd();
        spPlusD();
        pairsRunOver();
        hlRunsOver();
        addressesOfHighMemory();
        bytesRunOver();
        hlSumsRunOver();
        flagsHaveFourBits();
        idleHasNoAccess();
        Checks.end("ProcessorEdgeTest");
    }

    /** HIGH memory's last three bytes and IE are written, then PC is the place; low are the image's first bytes. */
    private static Rom nearTheEnd(int place, int[] last, int... low) {
        Rom rom = new Rom().put(0, low);
        for (int i = 0; i < last.length; i++) {
            rom.ldh(0x100 - last.length + i, last[i]);
        }
        return rom.code(0x3E, 0x12, 0xC3, place, place >> 8);
    }

    private static HandheldPair atTheEnd(int place, int[] last, int... low) {
        HandheldPair x = nearTheEnd(place, last, low).start();
        x.run(16 + 20 * last.length + 8 + 16);
        Checks.due("PC", x.about(0, 9), place);
        return x;
    }

    private static void pcRunsOver() {
        HandheldPair x = atTheEnd(0xFFFF, new int[] {0x00}, 0x3C, 0x3C);
        Go.step(x, 1);
        Checks.due("behind $FFFF comes 0", x.about(0, 9), 0);
        Go.step(x, 2);
        Checks.due("and it goes on there", x.about(0, 0), 0x14);
        Checks.due("PC", x.about(0, 9), 2);
    }

    private static void operandsRunOver() {
        HandheldPair n = atTheEnd(0xFFFF, new int[] {0x3E}, 0x77);
        Go.step(n, 1);
        Checks.due("n at 0", n.about(0, 0), 0x77);
        Checks.due("PC", n.about(0, 9), 1);
        HandheldPair nn = atTheEnd(0xFFFF, new int[] {0x01}, 0x34, 0x12);
        Go.step(nn, 1);
        Checks.due("nn at 0 and 1", nn.about(0, 2) << 8 | nn.about(0, 3), 0x1234);
        Checks.due("PC", nn.about(0, 9), 2);
        HandheldPair split = atTheEnd(0xFFFE, new int[] {0x01, 0x34}, 0x56);
        Go.step(split, 1);
        Checks.due("nn at $FFFF and 0", split.about(0, 2) << 8 | split.about(0, 3), 0x5634);
        HandheldPair cb = atTheEnd(0xFFFF, new int[] {0xCB}, 0x37);
        Go.step(cb, 1);
        Checks.due("behind $CB, at 0", cb.about(0, 0), 0x21);
        Checks.due("PC", cb.about(0, 9), 1);
    }

    private static void callsRunOver() {
        HandheldPair call = atTheEnd(0xFFFD, new int[] {0xCD, 0x34, 0x02});
        call.run(24);
        Checks.due("PC", call.about(0, 9), 0x234);
        Checks.due("behind the call comes 0", call.memory(0, 0xFFFC) | call.memory(0, 0xFFFD) << 8, 0);
        HandheldPair rst = atTheEnd(0xFFFF, new int[] {0xFF});
        Go.step(rst, 1);
        Checks.due("PC", rst.about(0, 9), 0x38);
        Checks.due("behind it comes 0", rst.memory(0, 0xFFFC) | rst.memory(0, 0xFFFD) << 8, 0);
    }

    private static void jumpsRunOver() {
        HandheldPair back = new Rom().put(0x100, 0xC3, 0, 0).put(0, 0x18, 0xFD).start();
        Go.step(back, 2);
        Checks.due("2 less 3", back.about(0, 9), 0xFFFF);
        HandheldPair far = new Rom().put(0x100, 0xC3, 0, 0).put(0, 0x18, 0x80).start();
        Go.step(far, 2);
        Checks.due("2 less 128", far.about(0, 9), 0xFF82);
        HandheldPair on = atTheEnd(0xFFFE, new int[] {0x18, 0x7F});
        Go.step(on, 1);
        Checks.due("0 and 127", on.about(0, 9), 0x7F);
        HandheldPair none = atTheEnd(0xFFFE, new int[] {0x20, 0x7F});
        Go.step(none, 1);
        Checks.due("a jump that is not made", none.about(0, 9), 0);
        int[][] ds = {{0x00, 0x102}, {0x7F, 0x181}, {0x80, 0x82}, {0xFF, 0x101}, {0xFE, 0x100}};
        for (int[] d : ds) {
            HandheldPair x = new Rom().put(0x100, 0x18, d[0]).start();
            Go.step(x, 1);
            Checks.due("d is " + d[0], x.about(0, 9), d[1]);
        }
    }

    /** STOP: PC one more (no read). */
    private static void stopRunsOver() {
        HandheldPair x = atTheEnd(0xFFFE, new int[] {0x10, 0x00});
        Go.step(x, 1);
        Checks.due("behind $FFFF", x.about(0, 9), 0);
        HandheldPair y = atTheEnd(0xFFFF, new int[] {0x10});
        long time = y.time(0);
        Go.step(y, 1);
        Checks.due("behind 0", y.about(0, 9), 1);
        Checks.due("one M-CYCLE", y.time(0), time + 4);
    }

    private static HandheldPair withSp(int sp, int... code) {
        return new Rom().kind(3, 2).code(0x01, 0x77, 0x0A, 0x31, sp, sp >> 8).code(code).start();
    }

    /** Push: SP less 1 before each, the high byte first. */
    private static void spRunsOverDown() {
        HandheldPair x = withSp(0, 0xC5);
        Go.step(x, 4);
        Checks.due("SP", x.about(0, 8), 0xFFFE);
        Checks.due("high at $FFFF", x.memory(0, 0xFFFF), 0x0A);
        Checks.due("low at $FFFE", x.memory(0, 0xFFFE), 0x77);
        HandheldPair y = withSp(1, 0xC5);
        Go.step(y, 4);
        Checks.due("SP", y.about(0, 8), 0xFFFF);
        Checks.due("high at 0: ON of the cartridge", y.memory(0, 0xA000), 0);
        Checks.due("low at $FFFF", y.memory(0, 0xFFFF), 0x77);
        HandheldPair call = withSp(1, 0xCD, 0x34, 0x12);
        Go.step(call, 4);
        Checks.due("SP behind a call", call.about(0, 8), 0xFFFF);
        Checks.due("low at $FFFF", call.memory(0, 0xFFFF), 0x59);
    }

    private static void spRunsOverUp() {
        HandheldPair x = new Rom().put(0, 0x21).ldh(0xFF, 0x43).code(0x31, 0xFF, 0xFF, 0xD1).start();
        Go.step(x, 5);
        Checks.due("low at $FFFF, high at 0", x.about(0, 4) << 8 | x.about(0, 5), 0x2143);
        Checks.due("SP", x.about(0, 8), 1);
        HandheldPair y = new Rom().ldh(0xFE, 0x44).ldh(0xFF, 0x05).code(0xC9).start();
        Go.step(y, 6);
        Checks.due("return by $FFFE and $FFFF", y.about(0, 9), 0x544);
        Checks.due("SP", y.about(0, 8), 0);
        HandheldPair z = new Rom().put(0, 0x03).ldh(0xFF, 0x45).code(0x31, 0xFF, 0xFF, 0xD9).start();
        Go.step(z, 5);
        Checks.due("return by $FFFF and 0", z.about(0, 9), 0x345);
        Checks.due("SP", z.about(0, 8), 1);
    }

    /** SP low, high to nn, nn + 1. */
    private static void spIsWrittenAcrossTheEnd() {
        HandheldPair x = withSp(0x0A5C, 0x08, 0xFF, 0xFF);
        Go.step(x, 4);
        Checks.due("low at $FFFF", x.memory(0, 0xFFFF), 0x5C);
        Checks.due("high at 0: ON of the cartridge", x.memory(0, 0xA000), 0);
        int[] values = {0x0A5C, 0xFFFF, 0x0001, 0x0100};
        for (int sp : values) {
            HandheldPair y = withSp(sp, 0x08, 0xFF, 0xC0);
            Go.step(y, 4);
            Checks.due("low at $C0FF", y.memory(0, 0xC0FF), sp & 255);
            Checks.due("high at $C100", y.memory(0, 0xC100), sp >> 8);
        }
    }

    private static void spPlusD() {
        int[][] cases = {{0x0000, 0xFF, 0xFFFF}, {0x0000, 0x80, 0xFF80}, {0xFFFF, 0x01, 0x0000}, {0xFFFF, 0x7F, 0x007E}, {0x007F, 0x80, 0xFFFF}, {0xFF81, 0x7F, 0x0000}};
        for (int[] c : cases) {
            HandheldPair x = withSp(c[0], 0xE8, c[1]);
            Go.step(x, 4);
            Checks.due("SP + d", x.about(0, 8), c[2]);
            HandheldPair y = withSp(c[0], 0xF8, c[1]);
            Go.step(y, 4);
            Checks.due("HL = SP + d", y.about(0, 6) << 8 | y.about(0, 7), c[2]);
            Checks.due("SP stays", y.about(0, 8), c[0]);
        }
    }

    private static int pair(HandheldPair x, int p) {
        return p == 3 ? x.about(0, 8) : x.about(0, 2 + 2 * p) << 8 | x.about(0, 3 + 2 * p);
    }

    private static void pairsRunOver() {
        int[][] cases = {{0xFFFF, 0, 0xFFFE}, {0x0000, 1, 0xFFFF}, {0x00FF, 0x0100, 0x00FE}, {0x0100, 0x0101, 0x00FF}, {0x7FFF, 0x8000, 0x7FFE}};
        for (int p = 0; p < 4; p++) {
            for (int[] c : cases) {
                HandheldPair more = new Rom().put(0x100, 0x01 | p << 4, c[0], c[0] >> 8, 0x03 | p << 4).start();
                Go.step(more, 2);
                Checks.due("one more than " + c[0], pair(more, p), c[1]);
                HandheldPair less = new Rom().put(0x100, 0x01 | p << 4, c[0], c[0] >> 8, 0x0B | p << 4).start();
                Go.step(less, 2);
                Checks.due("one less than " + c[0], pair(less, p), c[2]);
                Checks.due("no flags", less.about(0, 1), 0xB0);
            }
        }
    }

    /** Then HL += 1, HL -= 1: past $FFFF and past 0. */
    private static void hlRunsOver() {
        HandheldPair x = new Rom().put(0, 0x66).code(0x21, 0xFF, 0xFF, 0x3E, 0x15, 0x22, 0x2A, 0x3A, 0x3A).start();
        Go.step(x, 4);
        Checks.due("written at $FFFF", x.memory(0, 0xFFFF), 0x15);
        Checks.due("HL", pair(x, 2), 0);
        Go.step(x, 1);
        Checks.due("read at 0", x.about(0, 0), 0x66);
        Checks.due("HL", pair(x, 2), 1);
        Go.step(x, 2);
        Checks.due("read at 0", x.about(0, 0), 0x66);
        Checks.due("HL", pair(x, 2), 0xFFFF);
        HandheldPair y = new Rom().code(0x21, 0x00, 0x00, 0x32, 0x32).start();
        Go.step(y, 3);
        Checks.due("HL", pair(y, 2), 0xFFFF);
        Go.step(y, 1);
        Checks.due("written at $FFFF", y.memory(0, 0xFFFF), 1);
        Checks.due("HL", pair(y, 2), 0xFFFE);
    }

    /** $FF00 + n and $FF00 + C, for 0 and 255. */
    private static void addressesOfHighMemory() {
        HandheldPair x = new Rom().code(0x3E, 0x1F, 0xE0, 0xFF, 0x3E, 0x20, 0xE0, 0x00, 0xF0, 0xFF).start();
        Go.step(x, 5);
        Checks.due("A to $FFFF", x.memory(0, 0xFFFF), 0x1F);
        Checks.due("A to $FF00", x.memory(0, 0xFF00), 0xEF);
        Go.step(x, 1);
        Checks.due("from $FFFF", x.about(0, 0), 0x1F);
        HandheldPair y = new Rom().code(0x3E, 0x1E, 0x0E, 0xFF, 0xE2, 0x0C, 0x3E, 0x10, 0xE2, 0xF2).start();
        Go.step(y, 7);
        Checks.due("by C: $FFFF", y.memory(0, 0xFFFF), 0x1E);
        Checks.due("C runs over, no carry to the address", y.memory(0, 0xFF00), 0xDF);
        Go.step(y, 2);
        Checks.due("from $FF00", y.about(0, 0), 0xDF);
    }

    private static void dueOp(String what, int a, int op, int n, int result, int f) {
        HandheldPair x = new Rom().code(0x3E, a, 0xB7, op, n).start();
        Go.step(x, 4);
        Checks.due(what + ": A", x.about(0, 0), result);
        Checks.due(what + ": F", x.about(0, 1), f);
    }

    private static void bytesRunOver() {
        dueOp("255 and 1", 255, 0xC6, 1, 0, 0xB0);
        dueOp("254 and 1", 254, 0xC6, 1, 255, 0);
        dueOp("15 and 1", 15, 0xC6, 1, 16, 0x20);
        dueOp("255 and 255", 255, 0xC6, 255, 254, 0x30);
        dueOp("0 less 1", 0, 0xD6, 1, 255, 0x70);
        dueOp("1 less 1", 1, 0xD6, 1, 0, 0xC0);
        dueOp("16 less 1", 16, 0xD6, 1, 15, 0x60);
        dueOp("0 less 255", 0, 0xD6, 255, 1, 0x70);
        dueOp("compare 0 with 1", 0, 0xFE, 1, 0, 0x70);
        dueOp("255 one more", 255, 0x3C, 0, 0, 0xA0);
        dueOp("15 one more", 15, 0x3C, 0, 16, 0x20);
        dueOp("0 one less", 0, 0x3D, 0, 255, 0x60);
        dueOp("1 one less", 1, 0x3D, 0, 0, 0xC0);
        dueOp("16 one less", 16, 0x3D, 0, 15, 0x60);
        dueOp("$99 decimal", 0x99, 0x27, 0, 0x99, 0);
        dueOp("$9A decimal", 0x9A, 0x27, 0, 0, 0x90);
        dueOp("$A0 decimal", 0xA0, 0x27, 0, 0, 0x90);
        dueOp("$09 decimal", 0x09, 0x27, 0, 0x09, 0);
        dueOp("$0A decimal", 0x0A, 0x27, 0, 0x10, 0);
    }

    private static void hlSumsRunOver() {
        int[][] cases = {{0xFFFF, 0x0001, 0, 0xB0}, {0x0FFF, 0x0001, 0x1000, 0xA0}, {0xF000, 0x1000, 0, 0x90}, {0xFFFE, 0x0001, 0xFFFF, 0x80}, {0x00FF, 0x0001, 0x0100, 0x80}};
        for (int[] c : cases) {
            HandheldPair x = new Rom().put(0x100, 0x21, c[0], c[0] >> 8, 0x11, c[1], c[1] >> 8, 0x19).start();
            Go.step(x, 3);
            Checks.due("HL", pair(x, 2), c[2]);
            Checks.due("F, Z as it was", x.about(0, 1), c[3]);
        }
    }

    /** An idle M-CYCLE has none: d is read from VIDEO in the last M-CYCLE of mode 2, the idle ones fall into mode 3. */
    private static void idleHasNoAccess() {
        int[][] cases = {{0x18, 9, 0x8007}, {0x28, 9, 0x8007}, {0xE8, 8, 0x0003}, {0xF8, 6, 0x00}};
        for (int[] c : cases) {
            Rom rom = new Rom().ldh(0x40, 0).poke(0x8000, c[0]).poke(0x8001, 5).ldh(0x40, 0x91).spend(56).code(0xC3, 0x00, 0x80);
            HandheldPair x = rom.start();
            int on = 16 + 20 + 48 + 20;
            x.run(on + 72);
            Checks.due("PC", x.about(0, 9), 0x8000);
            Go.step(x, 1);
            Checks.due("mode 3", x.memory(0, 0xFF41) & 3, 3);
            Checks.due("by " + Integer.toHexString(c[0]), x.about(0, c[1]), c[2]);
        }
    }

    /** F: bits 7 to 4; others 0. */
    private static void flagsHaveFourBits() {
        int[] values = {0x00, 0x0F, 0xFF, 0x1F, 0x8F};
        for (int v : values) {
            HandheldPair x = new Rom().code(0x01, v, 0x55, 0xC5, 0xF1, 0xF5, 0xD1).start();
            Go.step(x, 4);
            Checks.due("F of " + v, x.about(0, 1), v & 0xF0);
            Go.step(x, 2);
            Checks.due("pushed again", x.about(0, 5), v & 0xF0);
        }
    }
}
