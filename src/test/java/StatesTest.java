/** Promises 16 keep and 17 take. */
public final class StatesTest {
    public static void main(String[] args) {
        wrongInputs();
        comesBack();
        twoStates();
        offComesBack();
        asideStays();
        sameCallsSameAnswers();
        Checks.end("StatesTest");
    }

    private static void wrongInputs() {
        HandheldPair x = new Rom().start();
        int[] wrong = {-1, 2, Integer.MIN_VALUE, Integer.MAX_VALUE};
        for (int k : wrong) {
            Checks.dueThrow("keep " + k, IndexOutOfBoundsException.class, () -> x.keep(k));
            Checks.dueThrow("take " + k, IndexOutOfBoundsException.class, () -> x.take(k));
        }
        Checks.dueThrow("take 0", IllegalStateException.class, () -> x.take(0));
        x.keep(0);
        Checks.dueThrow("take 1", IllegalStateException.class, () -> x.take(1));
        x.take(0);
    }

    /** Something of everything: sound, timer, cable, copy, block, banks, colours, FAST. */
    private static Rom busy() {
        Rom rom = new Rom(0x800).kind(0x10, 3).colour().poke(0, 10).poke(0xA000, 0x33).poke(0x4000, 9).poke(0xA000, 12).poke(0x4000, 1)
            .ldh(0x26, 0x80).ldh(0x24, 0x77).ldh(0x25, 0xFF).ldh(0x12, 0xF3).ldh(0x10, 0x11).ldh(0x13, 0x40).ldh(0x14, 0x87)
            .ldh(0x21, 0xF0).ldh(0x22, 0x11).ldh(0x23, 0x80).ldh(0x1A, 0x80).ldh(0x30, 0xF1).ldh(0x1C, 0x20).ldh(0x1E, 0x87)
            .ldh(0x07, 5).ldh(0x01, 0x5A).ldh(0x02, 0x81).ldh(0x42, 3).ldh(0x43, 5).ldh(0x4A, 2).ldh(0x4B, 20).ldh(0x40, 0xF3)
            .ldh(0x68, 0x80).ldh(0x69, 0x1F).ldh(0x69, 0x22).ldh(0x70, 3).ldh(0x4D, 1).code(0x10, 0)
            .ldh(0x53, 0x10).ldh(0x55, 0x8F).poke(0xC000, 1);
        int loop = rom.here();
        return rom.code(0x21, 0x00, 0xC1, 0x34, 0x7E, 0xEA, 0x00, 0x80, 0xF0, 0x04, 0x22, 0xFB, 0xC3, loop, loop >> 8);
    }

    private static long fingerprint(HandheldPair x) {
        long sum = x.count(1);
        for (int c = 0; c < 2; c++) {
            sum = sum * 31 + x.time(c);
            sum = sum * 31 + x.picture(c);
            for (int what = 0; what <= 25; what++) {
                sum = sum * 31 + x.about(c, what);
            }
            for (int address = 0; address < 0x10000; address += address < 0xFE00 ? 64 : 1) {
                sum = sum * 31 + x.memory(c, address);
            }
        }
        return sum * 31 + x.saved(0, 0);
    }

    private static HandheldPair busyPair() {
        HandheldPair x = busy().start();
        busy().insertInto(x, 1);
        x.keys(1, 0x3C);
        x.run(50000);
        return x;
    }

    private static void comesBack() {
        HandheldPair x = busyPair();
        long before = fingerprint(x);
        x.keep(1);
        Checks.due("keep changes nothing", fingerprint(x), before);
        x.run(70001);
        long later = fingerprint(x);
        x.keys(1, 0xC3);
        x.run(5);
        x.take(1);
        Checks.due("as it was", fingerprint(x), before);
        x.run(70001);
        Checks.due("it goes on as it did", fingerprint(x), later);
        x.take(1);
        Checks.due("once more", fingerprint(x), before);
    }

    private static void twoStates() {
        HandheldPair x = busyPair();
        x.keep(0);
        long first = fingerprint(x);
        x.run(777);
        x.keep(1);
        long second = fingerprint(x);
        x.run(60000);
        x.take(0);
        Checks.due("state 0", fingerprint(x), first);
        x.take(1);
        Checks.due("state 1", fingerprint(x), second);
        x.run(100);
        x.keep(0);
        long third = fingerprint(x);
        x.take(1);
        x.take(0);
        Checks.due("state 0 anew", fingerprint(x), third);
    }

    private static void offComesBack() {
        HandheldPair x = new HandheldPair();
        x.keys(0, 0x11);
        x.keep(0);
        x.run(100);
        new Rom().kind(3, 2).stay().insertInto(x, 0);
        x.keys(0, 0);
        x.run(100);
        x.keep(1);
        x.take(0);
        Checks.due("GOAL", x.count(1), 0);
        Checks.due("TIME", x.time(0), 0);
        Checks.due("OFF", x.about(0, 9), 0);
        Checks.dueThrow("OFF", IllegalStateException.class, () -> x.power(0));
        new Rom().stay().insertInto(x, 0);
        Checks.due("keys of then", x.memory(0, 0xFF00), 0xCE);
        Checks.dueThrow("another cartridge", IndexOutOfBoundsException.class, () -> x.saved(0, 0));
        x.take(1);
        Checks.due("the cartridge of then", x.saved(0, 8191), 0);
        Checks.due("GOAL", x.count(1), 200);
        Checks.due("keys", x.memory(0, 0xFF00), 0xCF);
        Checks.due("power", x.power(0), x.time(0));
    }

    private static void asideStays() {
        HandheldPair x = new Rom().put(0x100, 0x18, 0xFE).start();
        x.run(120);
        x.keep(0);
        x.run(120);
        x.end(77);
        Checks.dueThrow("refused", UnsupportedOperationException.class, () -> x.insert(1));
        x.end(55);
        x.take(0);
        Checks.due("THE TAPE", x.count(0), 55);
        Checks.due("refusals", x.refused(), 1);
        Checks.due("instructions of all runs", x.count(2), 20);
        Checks.due("GOAL", x.count(1), 120);
        x.run(12);
        Checks.due("instructions of all runs", x.count(2), 21);
    }

    private static void sameCallsSameAnswers() {
        Checks.due("two pairs", fingerprint(busyPair()), fingerprint(busyPair()));
    }
}
