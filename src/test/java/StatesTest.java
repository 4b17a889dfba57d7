/** Promises 16 keep and 17 take. */
public final class StatesTest {
    public static void main(String[] args) {
        wrongInputs();
        comesBack();
        comesBackAtAnyTime();
        registersComeBack();
        latchComesBack();
        powerMakesAllNew();
        twoStates();
        offComesBack();
        asideStays();
        sameCallsSameAnswers();
        Checks.end("StatesTest");
    }

    private static void wrongInputs() {
        HandheldPair x = new Rom().start();
        int[] wrong = {-1, 2, Integer.MIN_VALUE, Integer.MAX_VALUE};
        for (int k : wrong) {
            Checks.dueThrow("keep " + k, IndexOutOfBoundsException.class, () -> x.keep(k));
            Checks.dueThrow("take " + k, IndexOutOfBoundsException.class, () -> x.take(k));
        }
        Checks.dueThrow("take 0", IllegalStateException.class, () -> x.take(0));
        x.keep(0);
        Checks.dueThrow("take 1", IllegalStateException.class, () -> x.take(1));
        x.take(0);
    }

    /** Something of everything: sound, timer, cable, copy, block, banks, colours, FAST. */
    private static Rom busy() {
        Rom rom = new Rom(0x800).kind(0x10, 3).colour().poke(0, 10).poke(0xA000, 0x33).poke(0x4000, 9).poke(0xA000, 12).poke(0x4000, 1)
            .ldh(0x26, 0x80).ldh(0x24, 0x77).ldh(0x25, 0xFF).ldh(0x12, 0xF3).ldh(0x10, 0x11).ldh(0x13, 0x40).ldh(0x14, 0x87)
            .ldh(0x21, 0xF0).ldh(0x22, 0x11).ldh(0x23, 0x80).ldh(0x1A, 0x80).ldh(0x30, 0xF1).ldh(0x1C, 0x20).ldh(0x1E, 0x87)
            .ldh(0x07, 5).ldh(0x01, 0x5A).ldh(0x02, 0x81).ldh(0x42, 3).ldh(0x43, 5).ldh(0x4A, 2).ldh(0x4B, 20).ldh(0x40, 0xF3)
            .ldh(0x68, 0x80).ldh(0x69, 0x1F).ldh(0x69, 0x22).ldh(0x70, 3).ldh(0x4D, 1).code(0x10, 0)
            .ldh(0x53, 0x10).ldh(0x55, 0x8F).poke(0xC000, 1);
        int loop = rom.here();
        return rom.code(0x21, 0x00, 0xC1, 0x34, 0x7E, 0xEA, 0x00, 0x80, 0xF0, 0x04, 0x22, 0xFB, 0xC3, loop, loop >> 8);
    }

    private static long fingerprint(HandheldPair x) {
        return fingerprint(x, true);
    }

    private static long fingerprint(HandheldPair x, boolean withRam) {
        long sum = x.count(1);
        for (int c = 0; c < 2; c++) {
            sum = sum * 31 + x.time(c);
            sum = sum * 31 + x.picture(c);
            for (int what = 0; what <= 25; what++) {
                sum = sum * 31 + x.about(c, what);
            }
            for (int address = 0; address < 0x10000; address += address < 0xFE00 ? 64 : 1) {
                sum = sum * 31 + x.memory(c, address);
            }
        }
        return withRam ? sum * 31 + x.saved(0, 0) : sum;
    }

    private static HandheldPair busyPair() {
        HandheldPair x = busy().start();
        busy().insertInto(x, 1);
        x.keys(1, 0x3C);
        x.run(50000);
        return x;
    }

    private static void comesBack() {
        HandheldPair x = busyPair();
        long before = fingerprint(x);
        x.keep(1);
        Checks.due("keep changes nothing", fingerprint(x), before);
        x.run(70001);
        long later = fingerprint(x);
        x.keys(1, 0xC3);
        x.run(5);
        x.take(1);
        Checks.due("as it was", fingerprint(x), before);
        x.run(70001);
        Checks.due("it goes on as it did", fingerprint(x), later);
        x.take(1);
        Checks.due("once more", fingerprint(x), before);
    }

    /** In HIGH memory, for ever: a COPY, the time that it takes and some more, a bit by the cable. */
    private static Rom copying(int sc) {
        int[] loop = {0x3E, 0xC0, 0xE0, 0x46, 0x06, 0x28, 0x05, 0x20, 0xFD, 0x21, 0x77, 0xC0, 0x34, 0x0D, 0x20, 0xF0, 0x3E, sc, 0xE0, 0x02, 0x18, 0xEA};
        Rom rom = new Rom().kind(0x1B, 3).ldh(0x01, sc + 3).ldh(0x02, sc);
        for (int i = 0; i < loop.length; i++) {
            rom.ldh(0x80 + i, loop[i]);
        }
        return rom.code(0x0E, 0x09, 0xC3, 0x80, 0xFF);
    }

    /** Writes ever other values to the registers 05 to 25, timer and sound, for ever. */
    private static Rom noisy() {
        Rom rom = new Rom(0x800).kind(0x13, 2).ldh(0x30, 0xC7).ldh(0x3F, 0x19).code(0x21, 0x00, 0xC1);
        int loop = rom.here();
        return rom.code(0x0E, 0x05, 0x34, 0x7E, 0x81, 0x07, 0xE2, 0x0C, 0x79, 0xFE, 0x26, 0x20, 0xF5)
            .code(0x06, 0x50, 0x05, 0x20, 0xFD, 0x7E, 0xEA, 0x23, 0xC1, 0xC3, loop, loop >> 8);
    }

    private static void comesBackAtAnyTime() {
        for (int start = 500; start < 12000; start += 421) {
            HandheldPair x = (start % 2 == 0 ? busy() : copying(0x80)).start();
            (start % 4 < 2 ? copying(0x81) : noisy()).insertInto(x, 1);
            x.run(start);
            long before = fingerprint(x, start % 2 == 0);
            x.keep(0);
            x.run(300);
            long soon = fingerprint(x, start % 2 == 0);
            x.run(9000);
            long later = fingerprint(x, start % 2 == 0);
            x.run(3000 + start);
            x.take(0);
            Checks.due("as it was at " + start, fingerprint(x, start % 2 == 0), before);
            x.run(300);
            Checks.due("then soon, " + start, fingerprint(x, start % 2 == 0), soon);
            x.run(9000);
            Checks.due("then later, " + start, fingerprint(x, start % 2 == 0), later);
        }
    }

    /** Two sets of registers: the state is kept with the first, and taken back behind the second. */
    private static void registersComeBack() {
        Rom rom = new Rom(0x800).kind(0x10, 3).colour().poke(0, 10).poke(0x2000, 5).poke(0x4000, 9).poke(0xA000, 5)
            .ldh(0x55, 0x83).ldh(0x55, 0x12).ldh(0x4F, 1).ldh(0x26, 0).ldh(0x6A, 0x85).ldh(0x00, 0x10);
        int first = rom.here();
        rom.nops(60).poke(0x6000, 0).poke(0x6000, 1).nops(60);
        int latched = rom.here();
        rom.poke(0xA000, 20).poke(0x2000, 9).poke(0x4000, 1).poke(0, 0).ldh(0x55, 0x87).ldh(0x4F, 0).ldh(0x26, 0x80).ldh(0x6A, 0)
            .ldh(0x00, 0x20).stay();
        HandheldPair x = rom.start();
        runToPlace(x, first + 10);
        x.keep(0);
        long before = fingerprint(x);
        runToPlace(x, rom.here() - 2);
        Checks.due("the second set", x.about(0, 21), 9);
        x.take(0);
        Checks.due("the first set", fingerprint(x), before);
        Checks.due("55", x.memory(0, 0xFF55), 0x92);
        runToPlace(x, latched - 10);
        Checks.due("minutes of then", x.memory(0, 0xA000), 5);
    }

    private static void runToPlace(HandheldPair x, int pc) {
        for (int i = 0; i < 10000 && x.about(0, 9) < pc; i++) {
            x.run(4);
        }
    }

    /** The 0 that makes a later 1 latch the clock is part of the state. */
    private static void latchComesBack() {
        Rom rom = new Rom().kind(0x10, 0).poke(0, 10).poke(0x4000, 8).code(0x16, 0x03, 0x01, 0x00, 0x00)
            .code(0x0B, 0x78, 0xB1, 0x20, 0xFB, 0x15, 0x20, 0xF5).poke(0x6000, 0).nops(100).poke(0x6000, 1).stay();
        HandheldPair x = rom.start();
        x.run(1000);
        for (int i = 0; i < 200 && x.about(0, 4) != 1; i++) {
            x.run(30000);
        }
        for (int i = 0; i < 100000 && x.about(0, 9) < rom.here() - 100; i++) {
            x.run(24);
        }
        x.keep(0);
        Checks.due("not latched", x.memory(0, 0xA000), 0);
        x.run(1000);
        Checks.due("latched", x.memory(0, 0xA000), 1);
        x.take(0);
        Checks.due("not latched", x.memory(0, 0xA000), 0);
        x.run(1000);
        Checks.due("latched", x.memory(0, 0xA000), 1);
    }

    /** Behind power all goes as with a new cartridge, but for RAM and TIME. */
    private static void powerMakesAllNew() {
        int[] starts = {700, 1300, 2500, 3001, 7777, 50000, 70001};
        for (int start : starts) {
            for (int kind = 0; kind < 3; kind++) {
                HandheldPair x = (kind == 0 ? busy() : kind == 1 ? noisy() : copying(0x81)).start();
                HandheldPair fresh = (kind == 0 ? busy() : kind == 1 ? noisy() : copying(0x81)).start();
                x.keys(0, 0x21);
                x.run(start);
                x.keys(0, 0);
                x.power(0);
                int gap = (int) (x.time(0) - x.count(1));
                if (gap > 0) {
                    x.run(gap);
                }
                long from = x.time(0);
                int[] lengths = {4, 100, 500, 1000, 3000, 9000, 40000};
                for (int n : lengths) {
                    Checks.due("steps", x.run(n), fresh.run(n));
                    Checks.due("TIME", x.time(0) - from, fresh.time(0));
                    Checks.due("picture", x.picture(0), fresh.picture(0));
                    for (int what = 0; what <= 25; what++) {
                        Checks.due("about " + what + " behind power at " + start, x.about(0, what), fresh.about(0, what));
                    }
                    for (int address = 0; address < 0x10000; address += address < 0xFE00 ? 7 : 1) {
                        Checks.due("memory " + Integer.toHexString(address), x.memory(0, address), fresh.memory(0, address));
                    }
                }
            }
        }
    }

    private static void twoStates() {
        HandheldPair x = busyPair();
        x.keep(0);
        long first = fingerprint(x);
        x.run(777);
        x.keep(1);
        long second = fingerprint(x);
        x.run(60000);
        x.take(0);
        Checks.due("state 0", fingerprint(x), first);
        x.take(1);
        Checks.due("state 1", fingerprint(x), second);
        x.run(100);
        x.keep(0);
        long third = fingerprint(x);
        x.take(1);
        x.take(0);
        Checks.due("state 0 anew", fingerprint(x), third);
    }

    private static void offComesBack() {
        HandheldPair x = new HandheldPair();
        x.keys(0, 0x11);
        x.keep(0);
        x.run(100);
        new Rom().kind(3, 2).stay().insertInto(x, 0);
        x.keys(0, 0);
        x.run(100);
        x.keep(1);
        x.take(0);
        Checks.due("GOAL", x.count(1), 0);
        Checks.due("TIME", x.time(0), 0);
        Checks.due("OFF", x.about(0, 9), 0);
        Checks.dueThrow("OFF", IllegalStateException.class, () -> x.power(0));
        new Rom().stay().insertInto(x, 0);
        Checks.due("keys of then", x.memory(0, 0xFF00), 0xCE);
        Checks.dueThrow("another cartridge", IndexOutOfBoundsException.class, () -> x.saved(0, 0));
        x.take(1);
        Checks.due("the cartridge of then", x.saved(0, 8191), 0);
        Checks.due("GOAL", x.count(1), 200);
        Checks.due("keys", x.memory(0, 0xFF00), 0xCF);
        Checks.due("power", x.power(0), x.time(0));
        anotherCartridgeBetween();
    }

    private static void anotherCartridgeBetween() {
        HandheldPair x = busyPair();
        long before = fingerprint(x);
        x.keep(0);
        x.run(5000);
        long later = fingerprint(x);
        noisy().insertInto(x, 0);
        copying(0x81).insertInto(x, 1);
        x.run(7000);
        x.take(0);
        Checks.due("as it was", fingerprint(x), before);
        x.run(5000);
        Checks.due("it goes on as it did", fingerprint(x), later);
        noisy().insertInto(x, 1);
        x.run(9000);
        x.keep(1);
        long noise = fingerprint(x);
        busy().insertInto(x, 1);
        x.run(3000);
        x.take(1);
        Checks.due("from COLOUR to none", fingerprint(x), noise);
        Rom small = new Rom().kind(6, 0).poke(0, 10).poke(0xA005, 0x0B).stay();
        HandheldPair y = small.start();
        y.run(100);
        y.keep(0);
        new Rom().kind(3, 3).poke(0, 10).poke(0xA005, 0x77).stay().insertInto(y, 0);
        y.run(100);
        y.keep(1);
        y.take(0);
        Checks.due("512 bytes, four bits of each", y.memory(0, 0xA205), 0xFB);
        y.take(1);
        Checks.due("whole bytes", y.memory(0, 0xA005), 0x77);
        Checks.due("four banks", y.saved(0, 32767), 0);
    }

    private static void asideStays() {
        HandheldPair x = new Rom().put(0x100, 0x18, 0xFE).start();
        x.run(120);
        x.keep(0);
        x.run(120);
        x.end(77);
        Checks.dueThrow("refused", UnsupportedOperationException.class, () -> x.insert(1));
        x.end(55);
        x.take(0);
        Checks.due("THE TAPE", x.count(0), 55);
        Checks.due("refusals", x.refused(), 1);
        Checks.due("instructions of all runs", x.count(2), 20);
        Checks.due("GOAL", x.count(1), 120);
        x.run(12);
        Checks.due("instructions of all runs", x.count(2), 21);
    }

    private static void sameCallsSameAnswers() {
        Checks.due("two pairs", fingerprint(busyPair()), fingerprint(busyPair()));
    }
}
