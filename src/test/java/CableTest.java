/** Promises 9 to 11: the cable. */
public final class CableTest {
    public static void main(String[] args) {
        alone();
        bothWays();
        otherCountsItsOwn();
        twoThatClock();
        writeBeginsAnew();
        clocksNothing();
        quick();
        fastProcessor();
        Checks.end("CableTest");
    }

    /** SB is written at 36, SC at 56; then HALT, in steps of 4 DOTS. */
    private static Rom rom(int sb, int sc) {
        return new Rom().ldh(1, sb).ldh(2, sc).code(0x76);
    }

    private static void alone() {
        HandheldPair x = rom(0x5A, 0x81).start();
        x.run(56);
        Checks.due("SC", x.memory(0, 0xFF02), 0xFF);
        Checks.due("BITS", x.about(0, 25), 8);
        x.run(508);
        Checks.due("before the first bit", x.memory(0, 0xFF01), 0x5A);
        x.run(4);
        Checks.due("behind the first bit", x.memory(0, 0xFF01), 0xB5);
        Checks.due("BITS", x.about(0, 25), 7);
        x.run(512 * 7 - 4);
        Checks.due("before the last bit", x.about(0, 25), 1);
        Checks.due("no interrupt", x.memory(0, 0xFF0F), 0xE1);
        x.run(4);
        Checks.due("SB", x.memory(0, 0xFF01), 0xFF);
        Checks.due("SC", x.memory(0, 0xFF02), 0x7F);
        Checks.due("BITS", x.about(0, 25), 0);
        Checks.due("interrupt 3", x.memory(0, 0xFF0F), 0xE9);
        x.run(5000);
        Checks.due("nothing more", x.about(0, 25), 0);
    }

    private static void bothWays() {
        HandheldPair x = rom(0xA5, 0x81).start();
        rom(0x3C, 0x80).insertInto(x, 1);
        x.run(56 + 512 * 3);
        Checks.due("SB 0", x.memory(0, 0xFF01), (0xA5 << 3 | 0x3C >> 5) & 255);
        Checks.due("SB 1", x.memory(1, 0xFF01), (0x3C << 3 | 0xA5 >> 5) & 255);
        Checks.due("BITS 1", x.about(1, 25), 5);
        x.run(512 * 5);
        Checks.due("SB 0", x.memory(0, 0xFF01), 0x3C);
        Checks.due("SB 1", x.memory(1, 0xFF01), 0xA5);
        Checks.due("SC 0", x.memory(0, 0xFF02), 0x7F);
        Checks.due("SC 1", x.memory(1, 0xFF02), 0x7E);
        Checks.due("IF 0", x.memory(0, 0xFF0F), 0xE9);
        Checks.due("IF 1", x.memory(1, 0xFF0F), 0xE9);
        HandheldPair y = rom(0x81, 0x80).start();
        rom(0x42, 0x81).insertInto(y, 1);
        y.run(56 + 512 * 8);
        Checks.due("console 1 clocks: SB 0", y.memory(0, 0xFF01), 0x42);
        Checks.due("console 1 clocks: SB 1", y.memory(1, 0xFF01), 0x81);
    }

    private static void otherCountsItsOwn() {
        // Console 1 writes SC anew behind two bits: it needs eight more from there.
        HandheldPair x = new Rom(0x800).ldh(1, 0).ldh(2, 0x81).nops(1100).ldh(2, 0x81).code(0x76).start();
        new Rom().ldh(1, 0xFF).ldh(2, 0x80).nops(300).ldh(2, 0x80).code(0x76).insertInto(x, 1);
        x.run(56 + 512 * 2);
        Checks.due("BITS 1", x.about(1, 25), 6);
        x.run(512 * 6);
        Checks.due("console 0 is done", x.about(0, 25), 0);
        Checks.due("console 1 is not", x.about(1, 25), 2);
        Checks.due("SC 1", x.memory(1, 0xFF02), 0xFE);
        Checks.due("IF 1", x.memory(1, 0xFF0F) & 8, 0);
        x.run(2000);
        Checks.due("console 1 is done by the next ones", x.about(1, 25), 0);
        Checks.due("IF 1", x.memory(1, 0xFF0F) & 8, 8);
        Checks.due("console 0 goes on", x.about(0, 25) > 0 ? 1 : 0, 1);
    }

    private static void twoThatClock() {
        HandheldPair x = rom(0, 0x81).start();
        rom(0, 0x81).insertInto(x, 1);
        x.run(56 + 512 * 8);
        Checks.due("a 1 for each bit", x.memory(0, 0xFF01), 0xFF);
        Checks.due("a 1 for each bit", x.memory(1, 0xFF01), 0xFF);
    }

    private static void writeBeginsAnew() {
        HandheldPair x = new Rom().ldh(1, 0).ldh(2, 0x81).nops(200).ldh(2, 0x81).code(0x76).start();
        x.run(56 + 512);
        Checks.due("one bit", x.about(0, 25), 7);
        x.run(308);
        Checks.due("the second write, at 876", x.time(0), 876);
        Checks.due("BITS", x.about(0, 25), 8);
        x.run(508);
        Checks.due("RATE anew", x.about(0, 25), 8);
        x.run(4);
        Checks.due("a bit", x.about(0, 25), 7);
    }

    private static void clocksNothing() {
        int[] values = {0x00, 0x01, 0x80, 0x7F};
        for (int sc : values) {
            HandheldPair x = rom(0x12, sc).start();
            x.run(9000);
            Checks.due("SB stays", x.memory(0, 0xFF01), 0x12);
            Checks.due("BITS 8", x.about(0, 25), 8);
            Checks.due("SC", x.memory(0, 0xFF02), sc | 0x7E);
        }
    }

    private static void quick() {
        HandheldPair x = new Rom().colour().ldh(1, 0).ldh(2, 0x83).code(0x76).start();
        x.run(56);
        Checks.due("SC", x.memory(0, 0xFF02), 0xFF);
        x.run(12);
        Checks.due("BITS", x.about(0, 25), 8);
        x.run(4);
        Checks.due("BITS", x.about(0, 25), 7);
        x.run(16 * 7);
        Checks.due("done", x.memory(0, 0xFF02), 0x7F);
        HandheldPair y = new Rom().colour().ldh(1, 0).ldh(2, 0x81).code(0x76).start();
        y.run(56);
        Checks.due("SC with COLOUR", y.memory(0, 0xFF02), 0xFD);
        HandheldPair z = rom(0, 0x83).start();
        z.run(56 + 508);
        Checks.due("not without COLOUR", z.about(0, 25), 8);
        z.run(4);
        Checks.due("not without COLOUR", z.about(0, 25), 7);
    }

    private static void fastProcessor() {
        HandheldPair x = new Rom().colour().ldh(0x4D, 1).code(0x10, 0).ldh(1, 0).ldh(2, 0x81).code(0x76).start();
        x.run(60);
        Checks.due("TIME at the write of SC", x.time(0), 60);
        x.run(254);
        Checks.due("BITS", x.about(0, 25), 8);
        x.run(2);
        Checks.due("512 CLOCKS are 256 DOTS", x.about(0, 25), 7);
    }
}
