/** Promises 9 to 11: the cable's first and last bit, who takes part, and writes that begin it anew. */
public final class CableEdgeTest {
    public static void main(String[] args) {
        firstAndLastBit();
        quickFirstAndLastBit();
        otherDoesNotTakePart();
        otherThatIsOff();
        otherGoesOff();
        otherWithBitOne();
        otherThatIsBehind();
        otherIsPoweredAnew();
        otherHasHadEight();
        otherCountsFromItsWrite();
        writeWithoutBitSevenStops();
        writeOfSbMidway();
        dividerLeavesRate();
        speedLeavesRate();
        bitsAtPowerOn();
        asksForNothingElse();
        Checks.end("CableEdgeTest");
    }

    /** SB is written at 36, SC at 56; then HALT. */
    private static Rom rom(int sb, int sc) {
        return new Rom().ldh(1, sb).ldh(2, sc).code(0x76);
    }

    private static void dueState(String what, HandheldPair x, int c, int sb, int sc, int bits) {
        Checks.due(what + ": SB", x.memory(c, 0xFF01), sb);
        Checks.due(what + ": SC", x.memory(c, 0xFF02), sc);
        Checks.due(what + ": BITS", x.about(c, 25), bits);
    }

    /** RATE counts from 512 down; at 0 one bit; whoever has had 8: SC bit 7 goes, interrupt 3. */
    private static void firstAndLastBit() {
        HandheldPair x = rom(0x00, 0x81).start();
        x.run(56 + 508);
        dueState("508 CLOCKS", x, 0, 0x00, 0xFF, 8);
        x.run(4);
        dueState("512 CLOCKS", x, 0, 0x01, 0xFF, 7);
        x.run(508);
        dueState("1,020 CLOCKS", x, 0, 0x01, 0xFF, 7);
        x.run(4);
        dueState("1,024 CLOCKS", x, 0, 0x03, 0xFF, 6);
        x.run(6 * 512 - 4);
        dueState("4,092 CLOCKS", x, 0, 0x7F, 0xFF, 1);
        Checks.due("IF", x.memory(0, 0xFF0F), 0xE1);
        x.run(4);
        dueState("4,096 CLOCKS", x, 0, 0xFF, 0x7F, 0);
        Checks.due("IF", x.memory(0, 0xFF0F), 0xE9);
    }

    private static void quickFirstAndLastBit() {
        HandheldPair x = new Rom().colour().ldh(1, 0).ldh(2, 0x83).code(0x76).start();
        x.run(56 + 12);
        dueState("12 CLOCKS", x, 0, 0x00, 0xFF, 8);
        x.run(4);
        dueState("16 CLOCKS", x, 0, 0x01, 0xFF, 7);
        x.run(7 * 16 - 4);
        dueState("124 CLOCKS", x, 0, 0x7F, 0xFF, 1);
        x.run(4);
        dueState("128 CLOCKS", x, 0, 0xFF, 0x7F, 0);
        Checks.due("IF", x.memory(0, 0xFF0F), 0xE9);
        HandheldPair y = new Rom().colour().ldh(1, 0).ldh(2, 0x82).code(0x76).start();
        y.run(9000);
        dueState("without bit 0", y, 0, 0x00, 0xFE, 8);
    }

    /** If its SC has bit 7 and not bit 0; else a 1 comes, and it does not shift. */
    private static void otherDoesNotTakePart() {
        int[] values = {0x00, 0x01, 0x7E, 0x81};
        for (int sc : values) {
            HandheldPair x = rom(0x00, 0x81).start();
            rom(0x00, sc).insertInto(x, 1);
            x.run(56 + 3 * 512);
            Checks.due("a 1 for each bit", x.memory(0, 0xFF01), 7);
            if (sc != 0x81) {
                dueState("the other stays", x, 1, 0x00, sc | 0x7E, 8);
            }
        }
        HandheldPair x = rom(0xFF, 0x81).start();
        rom(0x00, 0xFE).insertInto(x, 1);
        x.run(56 + 3 * 512);
        Checks.due("bit 7 and not bit 0: it does", x.memory(0, 0xFF01), 0xF8);
        dueState("the other", x, 1, 0x07, 0xFE, 5);
    }

    private static void otherThatIsOff() {
        HandheldPair x = new HandheldPair();
        rom(0x00, 0x81).insertInto(x, 1);
        x.run(56 + 8 * 512);
        dueState("console 1 alone", x, 1, 0xFF, 0x7F, 0);
        Checks.due("OFF: BITS", x.about(0, 25), 0);
    }

    private static void otherGoesOff() {
        HandheldPair x = rom(0x00, 0x81).start();
        rom(0x00, 0x80).insertInto(x, 1);
        x.run(56 + 3 * 512);
        Checks.due("its bits came", x.memory(0, 0xFF01), 0);
        Checks.dueThrow("refused", UnsupportedOperationException.class, () -> x.insert(1));
        x.run(2 * 512);
        Checks.due("then each is a 1", x.memory(0, 0xFF01), 3);
        x.run(3 * 512);
        dueState("all the same it ends", x, 0, 0x1F, 0x7F, 0);
    }

    private static void otherIsPoweredAnew() {
        HandheldPair x = rom(0x00, 0x81).start();
        new Rom().ldh(1, 0).ldh(2, 0x80).code(0x76).insertInto(x, 1);
        x.run(56 + 512);
        Checks.due("BITS", x.about(1, 25), 7);
        x.power(1);
        dueState("all is 0", x, 1, 0, 0x7E, 0);
        x.run(512);
        Checks.due("its program wrote SC before the second bit", x.about(1, 25), 7);
        Checks.due("its bit came", x.memory(0, 0xFF01), 0);
    }

    /** Whoever has had 8 takes part no more: SC bit 7 went. */
    private static void otherHasHadEight() {
        HandheldPair x = new Rom(0x1000).ldh(1, 0xF0).ldh(2, 0x81).spend(8 * 512).ldh(2, 0x81).code(0x76).start();
        rom(0x5A, 0x80).insertInto(x, 1);
        x.run(56 + 8 * 512);
        dueState("the other is done", x, 1, 0xF0, 0x7E, 0);
        Checks.due("IF of the other", x.memory(1, 0xFF0F), 0xE9);
        Checks.due("SB", x.memory(0, 0xFF01), 0x5A);
        x.run(20 + 2 * 512);
        dueState("it stays", x, 1, 0xF0, 0x7E, 0);
        Checks.due("ones come", x.memory(0, 0xFF01), 0x6B);
    }

    /** The other counts its own, from its last write of SC with bit 7 on. */
    private static void otherCountsFromItsWrite() {
        HandheldPair x = new Rom(0x1000).ldh(1, 0x00).ldh(2, 0x81).code(0x76).start();
        new Rom(0x1000).ldh(1, 0xFF).ldh(2, 0x80).spend(7 * 512).ldh(2, 0x80).code(0x76).insertInto(x, 1);
        x.run(56 + 7 * 512);
        Checks.due("BITS of the other", x.about(1, 25), 1);
        x.run(20);
        Checks.due("written anew", x.about(1, 25), 8);
        x.run(492);
        Checks.due("the first is done", x.about(0, 25), 0);
        dueState("the other has had one", x, 1, 0x00, 0xFE, 7);
        Checks.due("IF of the other", x.memory(1, 0xFF0F), 0xE1);
    }

    /** Any write of SC: BITS 8, RATE anew; one without bit 7 clocks nothing. */
    private static void writeWithoutBitSevenStops() {
        HandheldPair x = new Rom(0x1000).ldh(1, 0x00).ldh(2, 0x81).spend(600).ldh(2, 0x01).spend(1000).ldh(2, 0x81).code(0x76).start();
        x.run(56 + 600);
        Checks.due("BITS", x.about(0, 25), 7);
        x.run(20);
        dueState("written", x, 0, 0x01, 0x7F, 8);
        x.run(1000);
        dueState("nothing goes", x, 0, 0x01, 0x7F, 8);
        x.run(20 + 508);
        dueState("RATE anew", x, 0, 0x01, 0xFF, 8);
        x.run(4);
        dueState("a bit", x, 0, 0x03, 0xFF, 7);
    }

    private static void writeOfSbMidway() {
        HandheldPair x = new Rom(0x1000).ldh(1, 0x00).ldh(2, 0x81).spend(600).ldh(1, 0x80).code(0x76).start();
        rom(0x00, 0x80).insertInto(x, 1);
        x.run(56 + 620);
        dueState("SB is written, all else goes on", x, 0, 0x80, 0xFF, 7);
        x.run(1024 - 620);
        dueState("its bit 7 went", x, 1, 0x01, 0xFE, 6);
    }

    /** Interrupt 3, of each that has had 8, and no other; none before. */
    private static void asksForNothingElse() {
        HandheldPair x = new Rom().ldh(0x0F, 0).ldh(2, 0x81).code(0x76).start();
        new Rom().ldh(0x0F, 0).ldh(2, 0x80).code(0x76).insertInto(x, 1);
        x.run(56 + 7 * 512);
        Checks.due("IF before", x.memory(0, 0xFF0F) << 8 | x.memory(1, 0xFF0F), 0xE0E0);
        x.run(512);
        Checks.due("IF", x.memory(0, 0xFF0F), 0xE8);
        Checks.due("IF of the other", x.memory(1, 0xFF0F), 0xE8);
    }

    private static void bitsAtPowerOn() {
        HandheldPair x = new Rom().stay().start();
        dueState("power on", x, 0, 0, 0x7E, 0);
        x.run(10000);
        dueState("nothing goes", x, 0, 0, 0x7E, 0);
    }

    /** A write to 04 makes DIVIDER 0, and leaves RATE. */
    private static void dividerLeavesRate() {
        HandheldPair x = new Rom(0x1000).ldh(1, 0).ldh(2, 0x81).spend(300).ldh(4, 0).code(0x76).start();
        x.run(56 + 508);
        dueState("508 CLOCKS", x, 0, 0x00, 0xFF, 8);
        x.run(4);
        dueState("512 CLOCKS", x, 0, 0x01, 0xFF, 7);
    }

    /** So does STOP; FAST then has 4 CLOCKS for 2 DOTS. STOP ends at 180: 104 CLOCKS went, 408 are left. */
    private static void speedLeavesRate() {
        HandheldPair x = new Rom().colour().ldh(0x4D, 1).ldh(1, 0).ldh(2, 0x81).spend(100).code(0x10, 0, 0x76).start();
        x.run(180);
        Checks.due("FAST", x.about(0, 13), 1);
        x.run(202);
        dueState("508 CLOCKS", x, 0, 0x00, 0xFD, 8);
        x.run(2);
        dueState("512 CLOCKS", x, 0, 0x01, 0xFD, 7);
        x.run(254);
        dueState("1,020 CLOCKS", x, 0, 0x01, 0xFD, 7);
        x.run(2);
        dueState("1,024 CLOCKS", x, 0, 0x03, 0xFD, 6);
    }

    /** The other takes part by its bits 7 and 0; its bit 1 says nothing. */
    private static void otherWithBitOne() {
        int[] values = {0x80, 0x82, 0xFE};
        for (int sc : values) {
            HandheldPair x = rom(0xA5, 0x81).start();
            new Rom().colour().ldh(1, 0x3C).ldh(2, sc).code(0x76).insertInto(x, 1);
            x.run(56 + 4 * 512);
            Checks.due("SB", x.memory(0, 0xFF01), 0x53);
            dueState("the other", x, 1, 0xCA, sc & 0x82 | 0x7C, 4);
            x.run(4 * 512);
            Checks.due("SB", x.memory(0, 0xFF01), 0x3C);
            dueState("the other", x, 1, 0xA5, sc & 2 | 0x7C, 0);
        }
    }

    /** The other takes part as it is then, however far behind its TIME: a BLOCK of 128 is one instruction of 4,116 DOTS. */
    private static void otherThatIsBehind() {
        Rom rom = new Rom().colour().ldh(0x40, 0).ldh(0x51, 1).ldh(0x52, 0).ldh(0x53, 0).ldh(0x54, 0).ldh(1, 0xA5).ldh(2, 0x81).ldh(0x55, 0x7F);
        HandheldPair x = rom.code(0x76).start();
        rom(0x3C, 0x80).insertInto(x, 1);
        x.run(176);
        Checks.due("one instruction", x.time(0), 176 + 128 * 32);
        Checks.due("TIME of the other", x.time(1), 176);
        Checks.due("SB", x.memory(0, 0xFF01), 0x3C);
        dueState("the other", x, 1, 0xA5, 0x7E, 0);
        Checks.due("IF of the other", x.memory(1, 0xFF0F), 0xE9);
    }
}
