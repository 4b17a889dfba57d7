/** Promise 9: interrupts, HALT and STOP. */
public final class InterruptTest {
    public static void main(String[] args) {
        interrupt();
        leastBitFirst();
        enableComesLate();
        disableStopsIt();
        pushChangesTheChoice();
        haltWakes();
        haltWithoutHalting();
        stopUntilAKey();
        Checks.end("InterruptTest");
    }

    private static void interrupt() {
        HandheldPair x = new Rom().code(0x31, 0x00, 0xD0).ldh(0xFF, 0x1F).code(0xFB, 0x00, 0x00).start();
        Go.step(x, 6);
        Checks.due("IME behind the next instruction", x.about(0, 10), 1);
        Checks.due("PC", x.about(0, 9), 0x159);
        long time = x.time(0);
        Go.step(x, 1);
        Checks.due("five M-CYCLES", x.time(0), time + 20);
        Checks.due("PC", x.about(0, 9), 0x40);
        Checks.due("IME", x.about(0, 10), 0);
        Checks.due("IF", x.memory(0, 0xFF0F), 0xE0);
        Checks.due("SP", x.about(0, 8), 0xCFFE);
        Checks.due("pushed", x.memory(0, 0xCFFE) | x.memory(0, 0xCFFF) << 8, 0x159);
    }

    private static void leastBitFirst() {
        for (int asked = 1; asked < 32; asked++) {
            for (int allowed = 0xE1; allowed < 0x100; allowed += 6) {
                HandheldPair x = new Rom().code(0x31, 0x00, 0xD0).ldh(0x0F, asked).ldh(0xFF, allowed).code(0xFB, 0x00, 0x00).start();
                Go.step(x, 9);
                int due = asked & allowed & 31;
                int k = Integer.numberOfTrailingZeros(due);
                Checks.due("PC of " + due, x.about(0, 9), due == 0 ? 0x15E : 0x40 + 8 * k);
                Checks.due("IF of " + due, x.memory(0, 0xFF0F), 0xE0 | (due == 0 ? asked : asked & ~(1 << k)));
                Checks.due("IE of " + due, x.memory(0, 0xFFFF), allowed);
            }
        }
    }

    private static void enableComesLate() {
        HandheldPair x = new Rom().code(0xFB, 0xFB, 0xFB, 0x00).start();
        Go.step(x, 2);
        Checks.due("behind the first", x.about(0, 10), 0);
        Go.step(x, 1);
        Checks.due("a second does not put it off", x.about(0, 10), 1);
        Go.step(x, 2);
        Checks.due("it stays", x.about(0, 10), 1);
    }

    private static void disableStopsIt() {
        HandheldPair x = new Rom().ldh(0xFF, 1).code(0xFB, 0xF3, 0x00, 0x00, 0xFB, 0x00, 0xF3).start();
        Go.step(x, 7);
        Checks.due("IME that was to come", x.about(0, 10), 0);
        Checks.due("PC", x.about(0, 9), 0x158);
        HandheldPair y = new Rom().code(0xFB, 0x00, 0xF3).start();
        Go.step(y, 3);
        Checks.due("IME", y.about(0, 10), 1);
        Go.step(y, 1);
        Checks.due("at once", y.about(0, 10), 0);
    }

    private static void pushChangesTheChoice() {
        HandheldPair x = new Rom().put(0x100, 0xC3, 0x00, 0x02)
            .put(0x200, 0x31, 0x00, 0x00, 0x3E, 0x01, 0xE0, 0xFF, 0xFB, 0x00, 0x00).start();
        Go.step(x, 6);
        Checks.due("PC before", x.about(0, 9), 0x209);
        Go.step(x, 1);
        Checks.due("IE was written with PC's high byte: none is left", x.memory(0, 0xFFFF), 2);
        Checks.due("PC", x.about(0, 9), 0);
        Checks.due("IF stays", x.memory(0, 0xFF0F), 0xE1);
        Checks.due("IME", x.about(0, 10), 0);

        HandheldPair y = new Rom().put(0x100, 0xC3, 0x00, 0x02)
            .put(0x200, 0x31, 0x00, 0x00, 0x3E, 0x07, 0xE0, 0x0F, 0x3E, 0x01, 0xE0, 0xFF, 0xFB, 0x00, 0x00).start();
        Go.step(y, 9);
        Checks.due("another is chosen", y.about(0, 9), 0x48);
        Checks.due("it goes from IF", y.memory(0, 0xFF0F), 0xE5);

        HandheldPair z = new Rom().put(0x100, 0xC3, 0x00, 0x02)
            .put(0x200, 0x31, 0x01, 0x00, 0x3E, 0x01, 0xE0, 0xFF, 0xFB, 0x00, 0x00).start();
        Go.step(z, 7);
        Checks.due("the low byte comes behind the choice", z.about(0, 9), 0x40);
        Checks.due("IE was written with PC's low byte", z.memory(0, 0xFFFF), 0x09);
    }

    private static void haltWakes() {
        // The timer overflows 16 CLOCKS after it begins.
        HandheldPair x = new Rom().ldh(0x0F, 0).ldh(0xFF, 4).ldh(0x05, 0xFF).ldh(0x07, 5).code(0x76, 0x3C, 0x00).start();
        Go.step(x, 10);
        Checks.due("HALT", x.about(0, 11), 1);
        x.run(40);
        Checks.due("it runs", x.about(0, 11), 0);
        Checks.due("the next instruction was done", x.about(0, 0), 6);
        Checks.due("no interrupt without IME", x.memory(0, 0xFF0F), 0xE4);

        HandheldPair y = new Rom().put(0x50, 0x18, 0xFE).ldh(0x0F, 0).ldh(0xFF, 4).ldh(0x05, 0xFF).ldh(0x07, 5).code(0xFB, 0x76, 0x3C).start();
        y.run(200);
        Checks.due("interrupt", y.about(0, 9), 0x50);
        Checks.due("pushed behind HALT", y.memory(0, 0xFFFC) | y.memory(0, 0xFFFD) << 8, 0x162);

        HandheldPair z = new Rom().ldh(0xFF, 0x1E).code(0x76).start();
        z.run(60000);
        Checks.due("what is not allowed does not wake", z.about(0, 11), 1);
    }

    private static void haltWithoutHalting() {
        HandheldPair x = new Rom().ldh(0xFF, 1).code(0x76, 0x3C, 0x00).start();
        Go.step(x, 4);
        Checks.due("no halt", x.about(0, 11), 0);
        Go.step(x, 1);
        Checks.due("PC did not go on", x.about(0, 9), 0x155);
        Go.step(x, 1);
        Checks.due("done twice", x.about(0, 0), 3);
        Checks.due("PC", x.about(0, 9), 0x156);

        HandheldPair y = new Rom().ldh(0xFF, 1).code(0x76, 0x06, 0x17, 0x00).start();
        Go.step(y, 5);
        Checks.due("the byte is its own operand", y.about(0, 2), 0x06);
        Checks.due("PC", y.about(0, 9), 0x156);
    }

    private static void stopUntilAKey() {
        HandheldPair x = new Rom().ldh(0, 0x10).code(0x10, 0x76, 0x3C, 0x18, 0xFE).start();
        x.run(1000);
        Checks.due("STOP", x.about(0, 11), 2);
        Checks.due("DIVIDER was 0, and goes on", x.about(0, 12), (int) x.time(0) - 40);
        x.keys(0, 0x0F);
        x.run(100);
        Checks.due("keys of the other half", x.about(0, 11), 2);
        x.keys(0, 0x80);
        x.run(4);
        Checks.due("it goes on", x.about(0, 11), 0);
        Checks.due("the next instruction", x.about(0, 0), 0x11);

        HandheldPair y = new Rom().colour().ldh(0x4D, 0xFF).code(0x10, 0x00).stay().start();
        Checks.due("KEY1", y.memory(0, 0xFF4D), 0x7E);
        y.run(36);
        Checks.due("KEY1 bit 0", y.memory(0, 0xFF4D), 0x7F);
        y.run(4);
        Checks.due("FAST", y.about(0, 13), 1);
        Checks.due("KEY1", y.memory(0, 0xFF4D), 0xFE);
        Checks.due("it runs", y.about(0, 11), 0);
        Checks.due("TIME", y.time(0), 40);
        y.run(12);
        Checks.due("two DOTS for each M-CYCLE", y.time(0), 52);
        Checks.due("four CLOCKS for each", y.about(0, 12), 24);
        HandheldPair z = new Rom().ldh(0x4D, 1).code(0x10, 0x00).stay().start();
        z.run(100);
        Checks.due("without COLOUR it stops", z.about(0, 11), 2);
        Checks.due("without COLOUR not FAST", z.about(0, 13), 0);
        Checks.due("without COLOUR no KEY1", z.memory(0, 0xFF4D), 0xFF);
    }
}
