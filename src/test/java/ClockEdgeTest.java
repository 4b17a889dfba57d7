/** Promises 7, 9 and 10: the cartridge's clock, where it carries, wraps, stops, is latched and is written. */
public final class ClockEdgeTest {
    private static final long SECOND = 4194304;

    public static void main(String[] args) {
        secondSincePowerOn();
        secondSinceTheWrite();
        secondOfAFastProcessor();
        powerBeginsItsDots();
        writesOfOthersDoNot();
        screenDoesNotMatter();
        powerLeavesAllOfIt();
        stoppedAtTheSecond();
        carries();
        beyondTheirLimits();
        bitsThatAreKept();
        latchNeedsZeroThenOne();
        latchedStays();
        newCartridgeHasNoZero();
        Checks.end("ClockEdgeTest");
    }

    /** Seconds as latched by a write that ends so many DOTS behind the start. */
    private static int secondsAt(long dots) {
        HandheldPair x = new Rom().kind(0x10, 0).poke(0, 10).poke(0x4000, 8).poke(0x6000, 0).spend(dots - 16 - 4 * 24).poke(0x6000, 1).stay().start();
        Go.toTime(x, dots);
        Checks.due("TIME", x.time(0), dots);
        return x.memory(0, 0xA000);
    }

    private static void secondSincePowerOn() {
        Checks.due("4 DOTS before", secondsAt(SECOND - 4), 0);
        Checks.due("the second", secondsAt(SECOND), 1);
        Checks.due("4 DOTS before the next", secondsAt(2 * SECOND - 4), 1);
        Checks.due("the next", secondsAt(2 * SECOND), 2);
        Checks.due("4 DOTS before the fourth", secondsAt(4 * SECOND - 4), 3);
        Checks.due("the fourth", secondsAt(4 * SECOND), 4);
    }

    /** The same, since a write of 5 to seconds that ends behind some odd thousands of DOTS. */
    private static int secondsBehindAWrite(long dots) {
        HandheldPair x = new Rom().kind(0x10, 0).poke(0, 10).poke(0x4000, 8).poke(0x6000, 0).spend(54320).poke(0xA000, 5)
            .spend(dots - 24).poke(0x6000, 1).stay().start();
        Go.toTime(x, 16 + 4 * 24 + 54320 + dots);
        return x.memory(0, 0xA000);
    }

    private static void secondSinceTheWrite() {
        Checks.due("4 DOTS before", secondsBehindAWrite(SECOND - 4), 5);
        Checks.due("the second", secondsBehindAWrite(SECOND), 6);
    }

    /** The clock counts DOTS, two of each M-CYCLE. */
    private static void secondOfAFastProcessor() {
        for (int late = 0; late < 2; late++) {
            // 16 + 20 + 4 DOTS, then each M-CYCLE has two.
            HandheldPair x = new Rom().kind(0x10, 0).colour().ldh(0x4D, 1).code(0x10, 0).poke(0, 10).poke(0x4000, 8).poke(0x6000, 0)
                .spend(2 * (SECOND - 40 - 2 + 2 * late) - 4 * 24).poke(0x6000, 1).stay().start();
            Go.toTime(x, SECOND - 2 + 2 * late);
            Checks.due("TIME", x.time(0), SECOND - 2 + 2 * late);
            Checks.due("the second at its DOT", x.memory(0, 0xA000), late);
        }
    }

    /** Power: the clock stays, its DOTS begin anew. */
    private static void powerBeginsItsDots() {
        Rom rom = new Rom().kind(0x10, 0).poke(0, 10).poke(0x4000, 8).poke(0x6000, 0).spend(SECOND - 4 - 16 - 4 * 24).poke(0x6000, 1).nops(1)
            .poke(0x6000, 0).poke(0x6000, 1).stay();
        HandheldPair x = rom.start();
        Go.toTime(x, SECOND - 100);
        long from = x.power(0);
        Go.toTime(x, from + SECOND - 4);
        Checks.due("no second of both", x.memory(0, 0xA000), 0);
        Go.toTime(x, from + SECOND + 60);
        Checks.due("the second", x.memory(0, 0xA000), 1);
        x.power(0);
        Go.toTime(x, x.time(0) + 100);
        Checks.due("clock and latch stay", x.memory(0, 0xA000), 1);
    }

    /** Only a write to seconds begins them anew. */
    private static void writesOfOthersDoNot() {
        for (int k = 9; k <= 12; k++) {
            HandheldPair x = new Rom().kind(0x10, 0).poke(0, 10).poke(0x4000, k).spend(SECOND / 2).poke(0xA000, 0).poke(0x4000, 8)
                .poke(0x6000, 0).spend(SECOND / 2 - 16 - 6 * 24).poke(0x6000, 1).stay().start();
            Go.toTime(x, SECOND);
            Checks.due("a write to " + k, x.memory(0, 0xA000), 1);
        }
    }

    /** Every 4,194,304 DOTS, if it is not stopped: what counts is the bit at that DOT. */
    private static void stoppedAtTheSecond() {
        for (int stopped = 0; stopped < 2; stopped++) {
            HandheldPair x = new Rom().kind(0x10, 0).poke(0, 10).poke(0x4000, 12).poke(0xA000, stopped == 0 ? 0x40 : 0).spend(SECOND / 2)
                .poke(0xA000, stopped == 0 ? 0 : 0x40).poke(0x4000, 8).poke(0x6000, 0).spend(SECOND / 2 - 16 - 7 * 24).poke(0x6000, 1).stay().start();
            Go.toTime(x, SECOND);
            Checks.due("stopped before: it counts; stopped then: it does not", x.memory(0, 0xA000), 1 - stopped);
        }
    }

    /** Sets seconds to the fifth register, lets a second go by, latches, and looks at all five. */
    private static void dueBehind(String what, int[] set, int[] want) {
        Rom rom = new Rom().kind(0x10, 0).poke(0, 10);
        for (int i = 4; i >= 0; i--) {
            rom.poke(0x4000, 8 + i).poke(0xA000, set[i]);
        }
        rom.spend(SECOND - 100).poke(0x6000, 0).nops(30).poke(0x6000, 1);
        for (int i = 0; i < 5; i++) {
            rom.poke(0x4000, 8 + i).peek(0xA000, 0x80 + i);
        }
        HandheldPair x = rom.stay().start();
        Go.toTime(x, SECOND + 1200);
        for (int i = 0; i < 5; i++) {
            Checks.due(what + ", register " + i, x.memory(0, 0xFF80 + i), want[i]);
        }
    }

    private static void carries() {
        dueBehind("59 seconds are not 60", new int[] {58, 59, 23, 255, 1}, new int[] {59, 59, 23, 255, 1});
        dueBehind("60 seconds", new int[] {59, 58, 23, 255, 1}, new int[] {0, 59, 23, 255, 1});
        dueBehind("60 minutes", new int[] {59, 59, 22, 255, 1}, new int[] {0, 0, 23, 255, 1});
        dueBehind("24 hours", new int[] {59, 59, 23, 254, 0}, new int[] {0, 0, 0, 255, 0});
        dueBehind("day 256", new int[] {59, 59, 23, 255, 0}, new int[] {0, 0, 0, 0, 1});
        dueBehind("day 511", new int[] {59, 59, 23, 254, 1}, new int[] {0, 0, 0, 255, 1});
        dueBehind("day 512 is 0, and bit 7 is set", new int[] {59, 59, 23, 255, 1}, new int[] {0, 0, 0, 0, 0x80});
        dueBehind("bit 7 stays", new int[] {59, 59, 23, 255, 0x81}, new int[] {0, 0, 0, 0, 0x80});
        dueBehind("bit 7 stays", new int[] {1, 2, 3, 4, 0x80}, new int[] {2, 2, 3, 4, 0x80});
        dueBehind("stopped", new int[] {59, 59, 23, 255, 0x41}, new int[] {59, 59, 23, 255, 0x41});
    }

    /** Numbers that were written beyond go on to 63, 31, then 0, without more. */
    private static void beyondTheirLimits() {
        dueBehind("seconds 60", new int[] {60, 59, 23, 1, 0}, new int[] {61, 59, 23, 1, 0});
        dueBehind("seconds 62", new int[] {62, 59, 23, 1, 0}, new int[] {63, 59, 23, 1, 0});
        dueBehind("seconds 63", new int[] {63, 59, 23, 1, 0}, new int[] {0, 59, 23, 1, 0});
        dueBehind("minutes 60", new int[] {59, 60, 23, 1, 0}, new int[] {0, 61, 23, 1, 0});
        dueBehind("minutes 62", new int[] {59, 62, 23, 1, 0}, new int[] {0, 63, 23, 1, 0});
        dueBehind("minutes 63", new int[] {59, 63, 23, 1, 0}, new int[] {0, 0, 23, 1, 0});
        dueBehind("hours 24", new int[] {59, 59, 24, 1, 0}, new int[] {0, 0, 25, 1, 0});
        dueBehind("hours 30", new int[] {59, 59, 30, 1, 0}, new int[] {0, 0, 31, 1, 0});
        dueBehind("hours 31", new int[] {59, 59, 31, 255, 1}, new int[] {0, 0, 0, 255, 1});
    }

    private static void bitsThatAreKept() {
        int[] masks = {63, 63, 31, 255, 0xC1};
        int[] values = {0, 1, 31, 32, 63, 64, 128, 255, 0x3E};
        for (int k = 0; k < 5; k++) {
            for (int v : values) {
                HandheldPair x = new Rom().kind(0x10, 0).poke(0, 10).poke(0x4000, 8 + k).poke(0xA000, v).stay().start();
                x.run(100);
                Checks.due("register " + k + " of " + v, x.memory(0, 0xA000), v & masks[k]);
            }
        }
    }

    /** Writes these at $6000 and further behind a second; seconds as LATCHED then. */
    private static int latchedBy(int... writes) {
        Rom rom = new Rom().kind(0x10, 0).spend(SECOND);
        for (int i = 0; i < writes.length; i += 2) {
            rom.poke(writes[i], writes[i + 1]);
        }
        HandheldPair x = rom.poke(0, 10).poke(0x4000, 8).stay().start();
        Go.toTime(x, SECOND + 300);
        return x.memory(0, 0xA000);
    }

    /** If v is 1 and the last such write was of 0; it need not be ON. */
    private static void latchNeedsZeroThenOne() {
        Checks.due("0, 1", latchedBy(0x6000, 0, 0x6000, 1), 1);
        Checks.due("0 at the last, 1 at the first place", latchedBy(0x7FFF, 0, 0x6000, 1), 1);
        Checks.due("0 at the first, 1 at the last place", latchedBy(0x6000, 0, 0x7FFF, 1), 1);
        Checks.due("0, 0, 1", latchedBy(0x6000, 0, 0x6000, 0, 0x6000, 1), 1);
        Checks.due("2, 0, 1", latchedBy(0x6000, 2, 0x6000, 0, 0x6000, 1), 1);
        Checks.due("1 alone", latchedBy(0x6000, 1), 0);
        Checks.due("0 alone", latchedBy(0x6000, 0), 0);
        Checks.due("0, 2, 1", latchedBy(0x6000, 0, 0x6000, 2, 0x6000, 1), 0);
        Checks.due("0, 3", latchedBy(0x6000, 0, 0x6000, 3), 0);
        Checks.due("0, $81", latchedBy(0x6000, 0, 0x6000, 0x81), 0);
        Checks.due("$10, 1", latchedBy(0x6000, 0x10, 0x6000, 1), 0);
        Checks.due("0 below $6000", latchedBy(0x5FFF, 0, 0x6000, 1), 0);
        Checks.due("1 below $6000", latchedBy(0x6000, 0, 0x5FFF, 1), 0);
        Checks.due("others between them do not count", latchedBy(0x6000, 0, 0x5FFF, 5, 0x6000, 1), 1);
    }

    /** A 0 that was written to another cartridge does not count. */
    private static void newCartridgeHasNoZero() {
        HandheldPair x = new Rom().kind(0x10, 0).poke(0x6000, 0).stay().start();
        x.run(100);
        new Rom().kind(0x10, 0).poke(0, 10).poke(0x4000, 8).spend(SECOND).poke(0x6000, 1).nops(10).poke(0x6000, 0).poke(0x6000, 1).stay().insertInto(x, 0);
        long from = x.time(0);
        Go.toTime(x, from + 16 + 48 + SECOND + 24);
        Checks.due("1 alone", x.memory(0, 0xA000), 0);
        Go.toTime(x, from + 16 + 48 + SECOND + 24 + 88);
        Checks.due("0, 1", x.memory(0, 0xA000), 1);
    }

    /** Read is the LATCHED clock: it stays until it is latched once more, by a 0 and a 1 anew. */
    private static void latchedStays() {
        HandheldPair x = new Rom().kind(0x10, 0).poke(0, 10).poke(0x4000, 8).poke(0x6000, 0).poke(0x6000, 1).spend(SECOND).poke(0x6000, 1).nops(10)
            .poke(0x6000, 0).nops(10).poke(0x6000, 1).stay().start();
        long at = 16 + 5 * 24 + SECOND;
        Go.toTime(x, at);
        Checks.due("a second 1 latches nothing", x.memory(0, 0xA000), 0);
        Go.toTime(x, at + 64);
        Checks.due("a 0 latches nothing", x.memory(0, 0xA000), 0);
        Go.toTime(x, at + 128);
        Checks.due("0, then 1", x.memory(0, 0xA000), 1);
    }

    /** DOTS are counted with the screen off, too. */
    private static void screenDoesNotMatter() {
        for (int late = 0; late < 2; late++) {
            long end = SECOND - 4 + 4 * late;
            HandheldPair x = new Rom().kind(0x10, 0).ldh(0x40, 0).poke(0, 10).poke(0x4000, 8).poke(0x6000, 0).spend(end - 36 - 4 * 24).poke(0x6000, 1).stay().start();
            Go.toTime(x, end);
            Checks.due("the second", x.memory(0, 0xA000), late);
        }
    }

    /** The clock and the latch stay: the program latches first, shows a register, and then writes it. */
    private static void powerLeavesAllOfIt() {
        int[][] cases = {{8, 0x2B}, {9, 0x15}, {10, 0x17}, {11, 0xA5}, {12, 0xC1}, {12, 0x40}, {12, 0x81}};
        for (int[] c : cases) {
            HandheldPair x = new Rom().kind(0x10, 0).poke(0, 10).poke(0x4000, c[0]).nops(5).poke(0x6000, 0).poke(0x6000, 1).nops(5).poke(0xA000, c[1]).stay().start();
            int shown = 16 + 2 * 24 + 12;
            x.run(shown);
            Checks.due("register " + c[0] + " at first", x.memory(0, 0xA000), 0);
            x.run(400);
            Checks.due("register " + c[0], x.memory(0, 0xA000), c[1]);
            long from = x.power(0);
            Checks.due("not ON", x.memory(0, 0xA000), 255);
            Go.toTime(x, from + shown);
            Checks.due("the latch of register " + c[0], x.memory(0, 0xA000), c[1]);
            Go.toTime(x, from + shown + 8 + 48 + 8);
            Checks.due("the clock's register " + c[0], x.memory(0, 0xA000), c[1]);
        }
    }
}
