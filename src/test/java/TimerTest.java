/** Promises 9 to 11: the divider and the timer. */
public final class TimerTest {
    public static void main(String[] args) {
        divider();
        rates();
        overflow();
        writeInTheWait();
        fallsByOtherCauses();
        Checks.end("TimerTest");
    }

    private static void divider() {
        HandheldPair x = new Rom().stay().start();
        x.run(70000);
        Checks.due("DIVIDER", x.about(0, 12), x.time(0) & 0xFFFF);
        Checks.due("its high byte", x.memory(0, 0xFF04), (x.time(0) & 0xFFFF) >> 8);
        HandheldPair y = new Rom().nops(300).ldh(4, 0x77).stay().start();
        y.run(16 + 1200 + 20);
        Checks.due("a write makes it 0", y.about(0, 12), 0);
        y.run(260);
        Checks.due("it goes on", y.memory(0, 0xFF04), 1);
    }

    private static void rates() {
        int[] periods = {1024, 16, 64, 256};
        for (int rate = 0; rate < 4; rate++) {
            HandheldPair x = new Rom().ldh(7, 0xF4 | rate).stay().start();
            x.run(36);
            Checks.due("TAC", x.memory(0, 0xFF07), 0xFC | rate);
            int want = 36 / periods[rate];
            for (int i = 0; i < 20; i++) {
                x.run(137);
                long counted = x.time(0) / periods[rate] - want;
                Checks.due("TIMA by rate " + rate, x.memory(0, 0xFF05), counted % 256);
            }
            HandheldPair y = new Rom().ldh(7, rate).stay().start();
            y.run(5000);
            Checks.due("TIMA stands", y.memory(0, 0xFF05), 0);
        }
    }

    private static void overflow() {
        // TIMA $FF from 96 on; the line falls at 112, so TIMA is TMA from 116 on.
        HandheldPair x = new Rom().ldh(0x0F, 0).ldh(6, 0xC8).ldh(7, 5).ldh(5, 0xFF).nops(40).stay().start();
        x.run(96);
        Checks.due("TIMA", x.memory(0, 0xFF05), 0xFF);
        x.run(12);
        Checks.due("TIMA at 108", x.memory(0, 0xFF05), 0xFF);
        x.run(4);
        Checks.due("TIMA at 112", x.memory(0, 0xFF05), 0);
        Checks.due("not yet", x.memory(0, 0xFF0F), 0xE0);
        x.run(4);
        Checks.due("TIMA at 116", x.memory(0, 0xFF05), 0xC8);
        Checks.due("interrupt 2", x.memory(0, 0xFF0F), 0xE4);
        x.run(12);
        Checks.due("TIMA at 128", x.memory(0, 0xFF05), 0xC9);
    }

    private static void writeInTheWait() {
        // The write to TIMA falls into the M-CYCLE that ends at 112, right behind the overflow.
        HandheldPair y = new Rom().ldh(0x0F, 0).ldh(6, 0xC8).ldh(7, 5).ldh(5, 0xFF).code(0x00, 0xE0, 0x05).nops(40).stay().start();
        y.run(112);
        Checks.due("TIME", y.time(0), 112);
        Checks.due("what was written", y.memory(0, 0xFF05), 0xFF);
        y.run(8);
        Checks.due("no TMA", y.memory(0, 0xFF05), 0xFF);
        Checks.due("no interrupt", y.memory(0, 0xFF0F), 0xE0);
        y.run(12);
        Checks.due("it goes on, over again at 128", y.memory(0, 0xFF05), 0xC8);
        Checks.due("interrupt 2", y.memory(0, 0xFF0F), 0xE4);
        // A write to TIMA in the M-CYCLE of the change comes behind it.
        HandheldPair z = new Rom().ldh(0x0F, 0).ldh(6, 0xC8).ldh(7, 5).ldh(5, 0xFF).code(0x00, 0x00, 0xE0, 0x05).nops(40).stay().start();
        z.run(116);
        Checks.due("what was written", z.memory(0, 0xFF05), 0xFF);
        Checks.due("asked for all the same", z.memory(0, 0xFF0F), 0xE4);
    }

    private static void fallsByOtherCauses() {
        // DIVIDER is 56 behind the second write, its bit 3 set: a write to 04 makes the line fall.
        HandheldPair x = new Rom().ldh(7, 5).ldh(4, 0).nops(10).stay().start();
        x.run(44);
        Checks.due("TIMA before", x.memory(0, 0xFF05), 0);
        x.run(12);
        Checks.due("DIVIDER", x.about(0, 12), 0);
        Checks.due("TIMA: at 48, and by the write", x.memory(0, 0xFF05), 2);
        // Bit 5 of 36 is set, bit 3 of 56 too: rate 2 falls when 4 is taken away.
        HandheldPair y = new Rom().ldh(7, 6).ldh(7, 2).nops(10).stay().start();
        y.run(56);
        Checks.due("TIMA", y.memory(0, 0xFF05), 1);
        HandheldPair z = new Rom().ldh(7, 6).ldh(7, 5).nops(10).stay().start();
        z.run(56);
        Checks.due("from one set bit to another", z.memory(0, 0xFF05), 0);
        HandheldPair s = new Rom().nops(1).ldh(7, 6).code(0x10, 0x00).start();
        s.run(44);
        Checks.due("STOP makes it fall", s.memory(0, 0xFF05), 1);
        Checks.due("DIVIDER", s.about(0, 12), 0);
    }
}
