import java.util.NoSuchElementException;

/** Promise 7: power. */
public final class PowerTest {
    public static void main(String[] args) {
        wrongInputs();
        startsAnew();
        whatWasUnderWayEnds();
        cartridgeStays();
        timeBecomesGoal();
        Checks.end("PowerTest");
    }

    private static void wrongInputs() {
        HandheldPair x = new Rom().start();
        Checks.dueThrow("power -1", NoSuchElementException.class, () -> x.power(-1));
        Checks.dueThrow("power 2", NoSuchElementException.class, () -> x.power(2));
        Checks.dueThrow("power of none", IllegalStateException.class, () -> x.power(1));
    }

    private static void startsAnew() {
        HandheldPair x = new Rom().colour().ldh(0x26, 0).ldh(0x26, 0x80).ldh(0x40, 0x11).ldh(0x80, 7).poke(0xC000, 8).poke(0x8000, 9)
            .ldh(0x70, 3).ldh(0x4F, 1).ldh(0x07, 5).ldh(0xFF, 0xE8).ldh(0x00, 0x10).ldh(0x4D, 1).code(0x10, 0x00, 0x76).start();
        x.keys(0, 0x10);
        x.run(2000);
        Checks.due("FAST before", x.about(0, 13), 1);
        Checks.due("HALT before", x.about(0, 11), 1);
        long time = x.time(0);
        Checks.due("power", x.power(0), time);
        int[] want = {0x11, 0xB0, 0, 0x13, 0, 0xD8, 1, 0x4D, 0xFFFE, 0x100, 0, 0, 0, 0, 0, 0, 0, 0, 0, 0, 0, 1, 0, 0, 0, 0};
        for (int what = 0; what < want.length; what++) {
            Checks.due("about " + what, x.about(0, what), want[what]);
        }
        int[][] memory = {{0xFF80, 0}, {0xC000, 0}, {0x8000, 0}, {0xFF70, 0xF8}, {0xFF4F, 0xFE}, {0xFF07, 0xF8}, {0xFF40, 0x91},
            {0xFF0F, 0xE1}, {0xFFFF, 0}, {0xFF00, 0xCE}, {0xFF26, 0xF0}};
        for (int[] m : memory) {
            Checks.due("memory " + Integer.toHexString(m[0]), x.memory(0, m[0]), m[1]);
        }
    }

    private static void whatWasUnderWayEnds() {
        HandheldPair copy = new Rom().ldh(0x40, 0x11).poke(0xFE00, 0x77).ldh(0x46, 0x01).stay().start();
        copy.run(80);
        Checks.due("a COPY that was written", copy.about(0, 23), 160);
        Checks.due("sprites", copy.memory(0, 0xFE00), 0x77);
        copy.power(0);
        Checks.due("sprites are 0", copy.memory(0, 0xFE00), 0);
        Checks.due("no COPY", copy.about(0, 23), 0);
        copy.run(16);
        Checks.due("no COPY", copy.about(0, 23), 0);
        Checks.due("PC", copy.about(0, 9), 0x150);

        HandheldPair block = new Rom().colour().ldh(0x55, 0x85).nops(100).stay().start();
        block.run(256);
        Checks.due("a BLOCK under way", block.about(0, 24), 5);
        block.power(0);
        Checks.due("no BLOCK", block.about(0, 24), 0);
        long time = block.time(0);
        block.run(1);
        Checks.due("no idle M-CYCLES", block.time(0), time + 16);

        HandheldPair cable = new Rom().ldh(1, 0x55).ldh(2, 0x81).nops(300).stay().start();
        cable.run(1200);
        Checks.due("a bit went", cable.about(0, 25), 6);
        cable.power(0);
        Checks.due("SB", cable.memory(0, 0xFF01), 0);
        Checks.due("SC", cable.memory(0, 0xFF02), 0x7E);
        Checks.due("BITS", cable.about(0, 25), 0);
    }

    private static void cartridgeStays() {
        HandheldPair x = new Rom().kind(0x10, 3)
            .poke(0, 10).poke(0xA001, 0x5A).poke(0x4000, 10).poke(0xA000, 5).poke(0x2000, 3).stay().start();
        x.run(600);
        Checks.due("hours", x.memory(0, 0xA000), 5);
        x.power(0);
        Checks.due("its RAM stays", x.saved(0, 1), 0x5A);
        Checks.due("ON does not", x.memory(0, 0xA000), 255);
        Checks.due("LOW does not", x.about(0, 21), 1);
        Checks.due("HIGH does not", x.about(0, 22), 0);
        new Rom().insertInto(x, 1);
        x.run(600);
        Checks.due("console 1 has its own", x.about(1, 0), 1);

        HandheldPair y = new Rom().kind(0x0F, 0).poke(0, 10).poke(0x4000, 10).code(0xFA, 0, 0xA0, 0xB7, 0x20, 0x05).poke(0xA000, 7).stay().start();
        y.run(600);
        y.power(0);
        y.run(600);
        Checks.due("clock and latch stay: hours are not written again", y.about(0, 0), 7);
        Checks.due("latched hours", y.memory(0, 0xA000), 7);
    }

    private static void timeBecomesGoal() {
        HandheldPair x = new Rom().stay().start();
        x.run(1);
        Checks.due("TIME above GOAL stays", x.power(0), 16);
        HandheldPair y = new HandheldPair();
        y.run(500);
        new Rom().stay().insertInto(y, 1);
        Checks.due("TIME", y.power(1), 500);
        y.keep(0);
        y.run(4);
        y.take(0);
        Checks.due("TIME", y.power(1), 500);
    }
}
