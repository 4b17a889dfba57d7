/** Promises 9 to 11: the copy into the sprites' memory. */
public final class CopyTest {
    public static void main(String[] args) {
        onTime();
        blocksTheProcessor();
        sources();
        beginsAnew();
        whateverTheScreenBlocks();
        Checks.end("CopyTest");
    }

    /** WORK from $C000 on holds 255, 254, ..; then code is brought to $FF80 and jumped to. */
    private static Rom rom(int lcdc, int page, int... code) {
        Rom rom = new Rom(0x800).ldh(0x40, lcdc).code(0x21, 0x00, 0xC0)
            .code(0x7D, 0x2F, 0x22, 0x7D, 0xB7, 0x20, 0xF9);
        for (int i = 0; i < code.length; i++) {
            rom.ldh(0x80 + i, code[i]);
        }
        return rom.code(0x3E, page, 0xC3, 0x80, 0xFF);
    }

    private static HandheldPair startedAt80(Rom rom) {
        HandheldPair probe = rom.start();
        int before = 0;
        for (int i = 0; i < 200 && probe.about(0, 9) < 0xFF80; i++) {
            before = i * 200;
            probe.run(200);
        }
        HandheldPair x = rom.start();
        Go.toTime(x, before);
        for (int i = 0; i < 60 && x.about(0, 9) != 0xFF80; i++) {
            x.run(4);
        }
        Checks.due("PC", x.about(0, 9), 0xFF80);
        return x;
    }

    private static void onTime() {
        HandheldPair x = startedAt80(rom(0x11, 0xC0, 0xE0, 0x46, 0x18, 0xFE));
        Checks.due("none", x.about(0, 23), 0);
        Go.step(x, 1);
        Checks.due("46", x.memory(0, 0xFF46), 0xC0);
        Checks.due("all are to come", x.about(0, 23), 160);
        Checks.due("not blocked yet", x.memory(0, 0xC000), 255);
        Checks.due("not blocked yet", x.memory(0, 0xC001), 254);
        // Each jump is three M-CYCLES; the first of all makes no byte.
        Go.step(x, 1);
        Checks.due("two bytes", x.about(0, 23), 158);
        Go.step(x, 52);
        Checks.due("two left", x.about(0, 23), 2);
        Checks.due("blocked", x.memory(0, 0xC001), 255);
        Go.step(x, 1);
        Checks.due("done", x.about(0, 23), 0);
        Checks.due("not blocked", x.memory(0, 0xC001), 254);
        for (int k = 0; k < 160; k++) {
            Checks.due("byte " + k, x.memory(0, 0xFE00 + k), 255 - k);
        }
        Checks.due("behind the last", x.memory(0, 0xFEA0), 0);
    }

    private static void blocksTheProcessor() {
        // Behind the write: reads of ($C010), (HL) and a write to $C011, then one to $FF90.
        Rom rom = rom(0x11, 0xC0, 0xE0, 0x46, 0xFA, 0x10, 0xC0, 0x47, 0xEA, 0x11, 0xC0, 0x3E, 0x77, 0xE0, 0xB0, 0xFA, 0xB0, 0xFF, 0x4F, 0x18, 0xFE);
        HandheldPair x = startedAt80(rom);
        Go.step(x, 2);
        Checks.due("a read", x.about(0, 0), 255);
        int[] blocked = {0x0150, 0x7FFF, 0x8000, 0xA000, 0xC020, 0xD000, 0xE001, 0xFDFF, 0xFE00, 0xFEA0, 0xFEFF};
        for (int address : blocked) {
            Checks.due("blocked " + Integer.toHexString(address), x.memory(0, address), 255);
        }
        Checks.due("not blocked", x.memory(0, 0xFF80), 0xE0);
        Checks.due("not blocked", x.memory(0, 0xFF46), 0xC0);
        Checks.due("not blocked", x.memory(0, 0xFFFF), 0);
        x.run(2000);
        Checks.due("the read", x.about(0, 2), 255);
        Checks.due("no write", x.memory(0, 0xC011), 255 - 0x11);
        Checks.due("HIGH memory is written and read", x.about(0, 3), 0x77);
    }

    private static void sources() {
        HandheldPair x = startedAt80(new Rom(0x800).put(0x02, 0x99).ldh(0x40, 0x11).poke(0xDE05, 0x31).poke(0xDF06, 0x32)
            .ldh(0x80, 0xE0).ldh(0x81, 0x46).ldh(0x82, 0x18).ldh(0x83, 0xFE).code(0x3E, 0xFE, 0xC3, 0x80, 0xFF));
        x.run(1000);
        Checks.due("$FE: from $DE00", x.memory(0, 0xFE05), 0x31);
        x = startedAt80(new Rom(0x800).ldh(0x40, 0x11).poke(0xDE05, 0x31).poke(0xDF06, 0x32)
            .ldh(0x80, 0xE0).ldh(0x81, 0x46).ldh(0x82, 0x18).ldh(0x83, 0xFE).code(0x3E, 0xFF, 0xC3, 0x80, 0xFF));
        x.run(1000);
        Checks.due("$FF: from $DF00", x.memory(0, 0xFE06), 0x32);
        x = startedAt80(rom(0x11, 0xE0, 0xE0, 0x46, 0x18, 0xFE));
        x.run(1000);
        Checks.due("$E0: from $C000", x.memory(0, 0xFE09), 255 - 9);
        x = startedAt80(rom(0x11, 0x01, 0xE0, 0x46, 0x18, 0xFE));
        x.run(1000);
        Checks.due("1: from the cartridge", x.memory(0, 0xFE00), 0xC3);
        Checks.due("1: from the cartridge", x.memory(0, 0xFE50), 0x3E);
        x = startedAt80(rom(0x11, 0xA0, 0xE0, 0x46, 0x18, 0xFE));
        x.run(1000);
        Checks.due("$A0: from a cartridge without RAM", x.memory(0, 0xFE00), 0xFF);
    }

    private static void beginsAnew() {
        // The second write comes four M-CYCLES behind the first one's: its LDs take two and three.
        HandheldPair x = startedAt80(rom(0x11, 0xC0, 0xE0, 0x46, 0x3E, 0x00, 0xE0, 0x46, 0x00, 0x00, 0x00, 0x18, 0xFE));
        Go.step(x, 2);
        Checks.due("one byte", x.about(0, 23), 159);
        Go.step(x, 1);
        Checks.due("all of the new one", x.about(0, 23), 160);
        Checks.due("the old one blocks", x.memory(0, 0xC001), 255);
        Go.step(x, 1);
        Checks.due("all of the new one", x.about(0, 23), 160);
        Go.step(x, 1);
        Checks.due("its first byte", x.about(0, 23), 159);
        x.run(1000);
        Checks.due("the new one's bytes", x.memory(0, 0xFE00), 0);
        Checks.due("46", x.memory(0, 0xFF46), 0);
        // Only four bytes of the old one came: 0 to 3 are over-written, as are all others.
        Checks.due("the new one's bytes", x.memory(0, 0xFE20), 0);
    }

    private static void whateverTheScreenBlocks() {
        // With the screen on, VIDEO and sprites are blocked for the processor, not for the copy.
        Rom rom = new Rom(0x800).ldh(0x40, 0x11).poke(0x8105, 0x66).poke(0x8198, 0x67).ldh(0x40, 0x91)
            .ldh(0x80, 0xE0).ldh(0x81, 0x46).ldh(0x82, 0x18).ldh(0x83, 0xFE).code(0x3E, 0x81, 0xC3, 0x80, 0xFF);
        HandheldPair x = startedAt80(rom);
        x.run(1000);
        for (int i = 0; i < 60 && (x.memory(0, 0xFF41) & 3) != 0; i++) {
            x.run(12);
        }
        Checks.due("mode 0", x.memory(0, 0xFF41) & 3, 0);
        Checks.due("byte 5", x.memory(0, 0xFE05), 0x66);
        Checks.due("byte $98", x.memory(0, 0xFE98), 0x67);
    }
}
