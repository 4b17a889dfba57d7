/** Promises 5 and 7: all that POWER ON makes as it is behind the firmware, at insert and once more. */
public final class PowerEdgeTest {
    public static void main(String[] args) {
        allRegistersAtInsert();
        allRegistersOnceMore();
        allMemoryOnceMore();
        armedSpeedIsForgotten();
        fastEnds();
        pictureIsEmpty();
        cartridgeStays();
        cartridgeRegistersDoNot();
        keysStay();
        timeStays();
        otherIsNotTouched();
        waitingEnds();
        lengthsAndSweepsEnd();
        Checks.end("PowerEdgeTest");
    }

    private static int[] registers(boolean colour) {
        int[] want = new int[0x80];
        java.util.Arrays.fill(want, 255);
        int[][] runs = {{0x00, 0xCF, 0x00, colour ? 0x7C : 0x7E}, {0x04, 0, 0, 0, 0xF8}, {0x0F, 0xE1},
            {0x10, 0x80, 0x3F, 0, 0xFF, 0xBF, 0xFF, 0x3F, 0, 0xFF, 0xBF, 0x7F, 0xFF, 0x9F, 0xFF, 0xBF, 0xFF, 0xFF, 0, 0, 0xBF, 0, 0, 0xF0},
            {0x30, 0, 0, 0, 0, 0, 0, 0, 0, 0, 0, 0, 0, 0, 0, 0, 0}, {0x40, 0x91, 0x84, 0, 0, 0, 0, 0, 0xFC, 0, 0, 0, 0}};
        for (int[] run : runs) {
            System.arraycopy(run, 1, want, run[0], run.length - 1);
        }
        if (colour) {
            want[0x4D] = 0x7E;
            want[0x4F] = 0xFE;
            want[0x68] = 0x40;
            want[0x6A] = 0x40;
            want[0x70] = 0xF8;
        }
        return want;
    }

    private static void dueAtPowerOn(String what, HandheldPair x, boolean colour) {
        int[] want = registers(colour);
        for (int low = 0; low < 0x80; low++) {
            Checks.due(what + ", register " + Integer.toHexString(low), x.memory(0, 0xFF00 + low), want[low]);
        }
        Checks.due(what + ", IE", x.memory(0, 0xFFFF), 0);
        int[] told = {colour ? 0x11 : 1, 0xB0, 0, 0x13, 0, 0xD8, 1, 0x4D, 0xFFFE, 0x100, 0, 0, 0, 0, 0, 0, 0, 0, 0, 0, 0, 1, 0, 0, 0, 0};
        for (int i = 0; i < told.length; i++) {
            Checks.due(what + ", about " + i, x.about(0, i), told[i]);
        }
    }

    private static void allRegistersAtInsert() {
        dueAtPowerOn("insert", new Rom().stay().start(), false);
        dueAtPowerOn("insert, COLOUR", new Rom().colour().stay().start(), true);
    }

    /** Writes this value to each register from 01 to 7F but 26, 40 and 55, and to IE; then turns it all on. */
    private static Rom writesAll(Rom rom, int v) {
        for (int low = 0x01; low < 0x80; low++) {
            if (low != 0x26 && low != 0x40 && low != 0x55 && low != 0x46) {
                rom.ldh(low, v);
            }
        }
        return rom.ldh(0xFF, v).ldh(0x40, v | 0x80).ldh(0x55, 0x83).ldh(0x00, 0x30);
    }

    private static void allRegistersOnceMore() {
        int[] values = {0xFF, 0x55, 0xAA};
        for (int v : values) {
            for (int colour = 0; colour < 2; colour++) {
                Rom rom = new Rom(0x800);
                if (colour == 1) {
                    rom.colour();
                }
                HandheldPair x = writesAll(rom, v).code(0x31, 0, 0xC5, 0x01, 0x34, 0x12, 0x11, 0x34, 0x12, 0x21, 0x34, 0xC2, 0x3E, 0x99, 0xB7).nops(60).stay().start();
                x.run(4000);
                x.power(0);
                dueAtPowerOn("behind " + v, x, colour == 1);
            }
        }
        // A COPY's register, in the same way; the program stays in HIGH memory.
        HandheldPair x = new Rom().ldh(0x80, 0xE0).ldh(0x81, 0x46).ldh(0x82, 0x18).ldh(0x83, 0xFE).code(0x3E, 0xC1, 0xC3, 0x80, 0xFF).start();
        x.run(200);
        Checks.due("46 before", x.memory(0, 0xFF46), 0xC1);
        x.power(0);
        dueAtPowerOn("behind a COPY", x, false);
    }

    /** Two phases: the first, if RAM's first byte is 0, fills all; the second just chooses banks and indexes. */
    private static Rom phases(int videoBank, int workBank, int index) {
        Rom rom = new Rom(0x800).kind(3, 2).colour().poke(0, 10).code(0xFA, 0, 0xA0, 0xB7, 0x20, 0x03, 0xC3, 0x00, 0x04);
        rom.ldh(0x4F, videoBank).ldh(0x70, workBank).ldh(0x68, index).ldh(0x6A, index).stay();
        Rom first = new Rom(0x400);
        first.ldh(0x40, 0).ldh(0x4F, videoBank).ldh(0x70, workBank).ldh(0x68, index).ldh(0x6A, index).ldh(0x69, 0x21).ldh(0x6B, 0x22)
            .poke(0x8000, 0x23).poke(0x9FFF, 0x24).poke(0xC000, 0x25).poke(0xD000, 0x26).poke(0xDFFF, 0x27).poke(0xFE00, 0x28).poke(0xFE9F, 0x29)
            .poke(0xFF80, 0x2A).poke(0xFFFE, 0x2B).poke(0xA000, 0x2C).stay();
        for (int i = 0x150; i < first.here(); i++) {
            rom.put(0x400 + i - 0x150, first.bytes[i]);
        }
        return rom;
    }

    private static final int[] FILLED = {0x8000, 0x9FFF, 0xC000, 0xD000, 0xDFFF, 0xFE00, 0xFE9F, 0xFF80, 0xFFFE};

    /** All else 0 (memories, too); the colours all $FF. */
    private static void allMemoryOnceMore() {
        int[][] cases = {{0, 1, 0}, {1, 7, 63}, {0, 2, 5}};
        for (int[] c : cases) {
            HandheldPair x = phases(c[0], c[1], c[2]).start();
            x.run(800);
            int[] filled = {0x23, 0x24, 0x25, 0x26, 0x27, 0x28, 0x29, 0x2A, 0x2B};
            for (int i = 0; i < FILLED.length; i++) {
                Checks.due("before, " + FILLED[i], x.memory(0, FILLED[i]), filled[i]);
            }
            Checks.due("colours before", x.memory(0, 0xFF69) << 8 | x.memory(0, 0xFF6B), 0x2122);
            x.power(0);
            x.run(300);
            for (int i = 0; i < 40 && (x.memory(0, 0xFF41) & 3) != 0; i++) {
                x.run(12);
            }
            for (int address : FILLED) {
                Checks.due("behind power, " + address, x.memory(0, address), 0);
            }
            Checks.due("VBK", x.memory(0, 0xFF4F), 0xFE | c[0]);
            Checks.due("colours", x.memory(0, 0xFF69) << 8 | x.memory(0, 0xFF6B), 0xFFFF);
            Checks.due("its RAM stays", x.saved(0, 0), 0x2C);
        }
    }

    private static void armedSpeedIsForgotten() {
        HandheldPair x = new Rom().kind(3, 2).colour().poke(0, 10).code(0xFA, 0, 0xA0, 0xB7, 0x20, 0x06, 0x3E, 0x01, 0xE0, 0x4D, 0x18, 0x02, 0x10, 0x00)
            .poke(0xA000, 1).stay().start();
        x.run(300);
        Checks.due("KEY1", x.memory(0, 0xFF4D), 0x7F);
        x.power(0);
        Checks.due("KEY1", x.memory(0, 0xFF4D), 0x7E);
        x.run(300);
        Checks.due("STOP stops", x.about(0, 11), 2);
        Checks.due("not FAST", x.about(0, 13), 0);
    }

    private static void fastEnds() {
        HandheldPair x = new Rom().colour().ldh(0x4D, 1).code(0x10, 0x00).stay().start();
        x.run(100);
        Checks.due("FAST", x.about(0, 13), 1);
        long from = x.power(0);
        Checks.due("not FAST", x.about(0, 13), 0);
        x.run((int) (from - x.count(1)) + 1);
        Checks.due("four DOTS of each M-CYCLE", x.time(0), from + 16);
    }

    private static void pictureIsEmpty() {
        HandheldPair x = new Rom().ldh(0x47, 3).stay().start();
        x.run(80000);
        Checks.due("before", x.pixel(0, 159, 143), 3);
        x.power(0);
        Checks.due("picture", x.picture(0), 0);
        Checks.due("pixel", x.pixel(0, 159, 143), 0);
    }

    private static void cartridgeStays() {
        HandheldPair x = new Rom(0x10000).kind(0x1B, 3).put(0xFFFF, 0x77).poke(0, 10).poke(0x2000, 3).poke(0x4000, 3).poke(0xBFFF, 0x5A).stay().start();
        x.run(150);
        x.power(0);
        Checks.due("RAM", x.saved(0, 32767), 0x5A);
        x.run(150);
        Checks.due("image", x.memory(0, 0x7FFF), 0x77);
    }

    /** Its registers do not stay: ON 0, LOW 1, HIGH 0. */
    private static void cartridgeRegistersDoNot() {
        int[] kinds = {3, 6, 0x13, 0x1B};
        for (int kind : kinds) {
            HandheldPair x = new Rom().kind(kind, 2).poke(0, 10).poke(kind == 6 ? 0x2100 : 0x2000, 2).poke(0x4000, 1).stay().start();
            x.run(120);
            Checks.due("LOW before", x.about(0, 21), 2);
            x.power(0);
            Checks.due("LOW", x.about(0, 21), 1);
            Checks.due("HIGH", x.about(0, 22), 0);
            Checks.due("not ON", x.memory(0, 0xA000), 255);
        }
        HandheldPair x = new Rom().kind(0x1B, 2).poke(0x3000, 1).poke(0x2000, 0).stay().start();
        x.run(100);
        Checks.due("LOW before", x.about(0, 21), 0x100);
        x.power(0);
        Checks.due("LOW", x.about(0, 21), 1);
    }

    private static void keysStay() {
        HandheldPair x = new Rom().ldh(0, 0x30).stay().start();
        x.keys(0, 0x48);
        x.run(50);
        Checks.due("P1 before", x.memory(0, 0xFF00), 0xFF);
        x.power(0);
        Checks.due("bits 4, 5 clear, keys as they were", x.memory(0, 0xFF00), 0xC3);
        Checks.due("IF 1", x.memory(0, 0xFF0F), 0xE1);
    }

    private static void timeStays() {
        HandheldPair x = new Rom().stay().start();
        x.run(77);
        long time = x.time(0);
        Checks.due("TIME", x.power(0), time);
        Checks.due("TIME", x.time(0), time);
        Checks.due("GOAL", x.count(1), 77);
        Checks.due("steps stay", x.count(2), 7);
    }

    private static void otherIsNotTouched() {
        HandheldPair x = Programs.busyPair();
        HandheldPair same = Programs.busyPair();
        x.power(0);
        for (int what = 0; what <= 25; what++) {
            Checks.due("about " + what, x.about(1, what), same.about(1, what));
        }
        Checks.due("TIME", x.time(1), same.time(1));
        Checks.due("picture", x.picture(1), same.picture(1));
        Checks.due("its RAM", x.saved(1, 0), same.saved(1, 0));
    }

    /** Runs the first code; behind power, since RAM's first byte is 1 then, the second. */
    private static Rom twoCodes(Rom first, Rom second) {
        Rom rom = new Rom(0x1000).kind(3, 2).poke(0, 10).code(0xFA, 0, 0xA0, 0xB7, 0xC2, 0x00, 0x04).poke(0xA000, 1);
        for (int i = 0x150; i < first.here(); i++) {
            rom.code(first.bytes[i]);
        }
        rom.code(0x76);
        for (int i = 0x150; i < second.here(); i++) {
            rom.put(0x400 + i - 0x150, second.bytes[i]);
        }
        return rom.put(0x400 + second.here() - 0x150, 0x76);
    }

    private static void lengthsAndSweepsEnd() {
        for (int channel = 0; channel < 4; channel++) {
            int base = 0x10 + 5 * channel;
            HandheldPair x = twoCodes(new Rom().ldh(base + 1, 0xFF), new Rom().ldh(channel == 2 ? 0x1A : base + 2, 0xF0).ldh(base + 4, 0xC0)).start();
            x.run(500);
            x.power(0);
            x.run(20000);
            Checks.due("LENGTH 0 became 64, not 1", x.memory(0, 0xFF26), 0xF0 | 1 << channel);
        }
        // The sweep of 1000 goes beyond 2047 at its first STEP, if it counts; it counts only behind a trigger.
        HandheldPair x = twoCodes(new Rom().ldh(0x10, 0x12).ldh(0x12, 0xF0).ldh(0x13, 0xE8).ldh(0x14, 0x83),
            new Rom().ldh(0x10, 0x12).ldh(0x11, 0xC0).ldh(0x12, 0xF0).ldh(0x13, 0xFF).ldh(0x14, 0x07).spend(4 * 8192).ldh(0x10, 0).ldh(0x14, 0x87)).start();
        x.run(500);
        Checks.due("ON", x.memory(0, 0xFF26), 0xF1);
        long from = x.power(0);
        Go.toTime(x, from + 5 * 8192);
        Checks.due("ON", x.memory(0, 0xFF26), 0xF1);
        // Frequency 2047 as it was written: 4 DOTS a place, so that of 8 places two beside each other are 0.
        int zeros = 0;
        for (int i = 0; i < 16; i++) {
            zeros += x.about(0, 16) == 0 ? 1 : 0;
            x.run(4);
        }
        Checks.due("places of duty 3 that are 0", zeros, 4);
    }

    private static void waitingEnds() {
        int[] codes = {0x76, 0x10, 0xD3};
        for (int code : codes) {
            HandheldPair x = new Rom().code(code, 0).start();
            x.run(100);
            Checks.due("it waits", x.about(0, 11) > 0 ? 1 : 0, 1);
            x.power(0);
            Checks.due("it runs", x.about(0, 11), 0);
            Go.step(x, 1);
            Checks.due("PC", x.about(0, 9), 0x150);
        }
    }
}
