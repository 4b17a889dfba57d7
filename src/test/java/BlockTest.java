/** Promises 9 to 11: blocks copied into VIDEO, with COLOUR. */
public final class BlockTest {
    public static void main(String[] args) {
        atOnce();
        places();
        closedSources();
        slow();
        slowEnds();
        slowBeginsAnew();
        fast();
        withoutColour();
        Checks.end("BlockTest");
    }

    /** The five writes take 100 DOTS, the one to 55 ends 116 DOTS behind the start. */
    private static Rom block(Rom rom, int source, int goal, int v) {
        return rom.ldh(0x51, source >> 8).ldh(0x52, source).ldh(0x53, goal >> 8).ldh(0x54, goal).ldh(0x55, v);
    }

    private static Rom data() {
        Rom rom = new Rom(0x600).colour();
        for (int i = 0; i < 64; i++) {
            rom.put(0x500 + i, 0x10 + i);
        }
        return rom;
    }

    private static void atOnce() {
        HandheldPair x = block(data().ldh(0x40, 0), 0x500, 0x8120, 0x01).nops(4).stay().start();
        x.run(16 + 20 + 80 + 8);
        Checks.due("TIME before the write", x.time(0), 124);
        x.run(1);
        Checks.due("two blocks are 16 idle M-CYCLES", x.time(0), 136 + 64);
        Checks.due("55", x.memory(0, 0xFF55), 0xFF);
        Checks.due("none is to come", x.about(0, 24), 0);
        for (int i = 0; i < 32; i++) {
            Checks.due("byte " + i, x.memory(0, 0x8120 + i), 0x10 + i);
        }
        Checks.due("behind it", x.memory(0, 0x8140), 0);
        Checks.due("before it", x.memory(0, 0x811F), 0);
        for (int low = 0x51; low <= 0x54; low++) {
            Checks.due("51 to 54", x.memory(0, 0xFF00 + low), 0xFF);
        }
    }

    private static void places() {
        // The low four bits are cut off, and of the goal's high ones only those within VIDEO count.
        HandheldPair x = block(data().ldh(0x40, 0).ldh(0x4F, 1), 0x50F, 0xFFFF, 0x01).stay().start();
        x.run(400);
        Checks.due("goal $9FF0", x.memory(0, 0x9FF0), 0x10);
        Checks.due("goal $9FFF", x.memory(0, 0x9FFF), 0x1F);
        Checks.due("it goes on at $8000", x.memory(0, 0x8000), 0x20);
        HandheldPair y = block(data().ldh(0x40, 0).ldh(0x4F, 1), 0x500, 0, 0).ldh(0x4F, 0).stay().start();
        y.run(400);
        Checks.due("bank 0", y.memory(0, 0x8000), 0);
        // A second write goes from the same places: 51 to 54 stay.
        HandheldPair z = block(data().ldh(0x40, 0), 0x500, 0, 0).ldh(0x4F, 1).ldh(0x55, 1).stay().start();
        z.run(600);
        Checks.due("bank 1", z.memory(0, 0x8000), 0x10);
        Checks.due("bank 1", z.memory(0, 0x801F), 0x2F);
    }

    private static void closedSources() {
        int[] closed = {0x8000, 0x9FF0, 0xE000, 0xFE00, 0xFF00, 0xA000};
        for (int source : closed) {
            // A long image, so that no other byte of it is $FF.
            Rom rom = new Rom(0x8000).colour().ldh(0x40, 0).poke(0x8000, 1).poke(0x9FF0, 1).poke(0xC000, 1);
            HandheldPair x = block(rom, source, 0x100, 0).stay().start();
            x.run(400);
            Checks.due("from " + Integer.toHexString(source), x.memory(0, 0x8100), 255);
            Checks.due("from " + Integer.toHexString(source), x.memory(0, 0x810F), 255);
        }
        HandheldPair x = block(data().ldh(0x40, 0).poke(0xC000, 0x21).poke(0xDFFF, 0x22), 0xDFF0, 0x100, 1).stay().start();
        x.run(400);
        Checks.due("from WORK", x.memory(0, 0x810F), 0x22);
        Checks.due("from $E000 on", x.memory(0, 0x8110), 255);
        HandheldPair y = block(data().ldh(0x40, 0).poke(0xC003, 0x21), 0xFFF0, 0x100, 1).stay().start();
        y.run(400);
        Checks.due("$FFF0 goes on at 0", y.memory(0, 0x8110), 0);
    }

    private static void slow() {
        HandheldPair x = block(data(), 0x500, 0x8000, 0x82).nops(600).stay().start();
        x.run(116);
        Checks.due("55: blocks left less 1", x.memory(0, 0xFF55), 2);
        Checks.due("blocks", x.about(0, 24), 3);
        x.run(136);
        Checks.due("before mode 0", x.about(0, 24), 3);
        Checks.due("TIME", x.time(0), 252);
        x.run(4);
        Checks.due("mode 0", x.memory(0, 0xFF41) & 3, 0);
        Checks.due("one went", x.about(0, 24), 2);
        Checks.due("55", x.memory(0, 0xFF55), 1);
        Checks.due("copied then", x.memory(0, 0x800F), 0x1F);
        Checks.due("just one", x.memory(0, 0x8010), 0);
        Checks.due("TIME", x.time(0), 256);
        Checks.due("steps", x.run(1), 1);
        Checks.due("eight idle M-CYCLES come before the next one", x.time(0), 256 + 36);
        x.run(452 + 256 - 256);
        Checks.due("in the next line", x.about(0, 24), 1);
        Checks.due("the second block", x.memory(0, 0x801F), 0x2F);
        x.run(460);
        Checks.due("done", x.about(0, 24), 0);
        Checks.due("55", x.memory(0, 0xFF55), 0xFF);
        Checks.due("the third block", x.memory(0, 0x802F), 0x3F);
        x.run(460);
        Checks.due("no more", x.memory(0, 0x8030), 0);
        HandheldPair y = block(data().ldh(0x40, 0), 0x500, 0x8000, 0x82).nops(600).stay().start();
        y.run(3000);
        Checks.due("none without the screen", y.about(0, 24), 3);
    }

    private static void slowEnds() {
        HandheldPair x = block(data(), 0x500, 0x8000, 0x8F).nops(50).ldh(0x55, 0x25).nops(40).stay().start();
        x.run(320);
        Checks.due("under way", x.about(0, 24), 15);
        x.run(80);
        Checks.due("it ends", x.about(0, 24), 0);
        Checks.due("55", x.memory(0, 0xFF55), 0xA5);
        Checks.due("nothing was copied by that", x.memory(0, 0x8010), 0);
        long time = x.time(0);
        x.run(8);
        Checks.due("no idle M-CYCLES", x.time(0), time + 8);
        x.run(1000);
        Checks.due("it does not go on", x.memory(0, 0x8010), 0);
        Checks.due("55", x.memory(0, 0xFF55), 0xA5);
    }

    private static void slowBeginsAnew() {
        HandheldPair x = block(data(), 0x500, 0x8000, 0x8F).nops(50).ldh(0x55, 0x80).nops(400).stay().start();
        x.run(400);
        Checks.due("the new one", x.about(0, 24), 1);
        Checks.due("55", x.memory(0, 0xFF55), 0);
        x.run(400);
        Checks.due("done", x.memory(0, 0xFF55), 0xFF);
        Checks.due("from the first place again", x.memory(0, 0x8010), 0);
    }

    private static void fast() {
        HandheldPair x = block(data().ldh(0x40, 0).ldh(0x4D, 1).code(0x10, 0), 0x500, 0x8120, 0x01).nops(4).stay().start();
        x.run(16 + 20 + 20 + 4 + 50 - 6);
        long before = x.time(0);
        Checks.due("55 is not written", x.memory(0, 0x8120), 0);
        x.run(1);
        Checks.due("two blocks are 32 idle M-CYCLES of two DOTS", x.time(0), before + 6 + 64);
        HandheldPair y = block(data().ldh(0x4D, 1).code(0x10, 0), 0x500, 0x8000, 0x80).nops(600).stay().start();
        y.run(250);
        Checks.due("TIME", y.time(0), 250);
        y.run(4);
        Checks.due("copied at DOT 252", y.about(0, 24), 0);
        Checks.due("TIME", y.time(0), 254);
        y.run(1);
        Checks.due("16 idle M-CYCLES of two DOTS", y.time(0), 254 + 34);
    }

    private static void withoutColour() {
        Rom rom = data();
        rom.put(0x143, 0);
        HandheldPair x = block(rom.ldh(0x40, 0), 0x500, 0x8000, 0x01).stay().start();
        x.run(300);
        Checks.due("nothing", x.memory(0, 0x8000), 0);
        Checks.due("55", x.memory(0, 0xFF55), 0xFF);
    }
}
