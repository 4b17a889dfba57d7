/** Promises 16 keep and 17 take. */
public final class StatesTest {
    public static void main(String[] args) {
        wrongInputs();
        keepChangesNothing();
        comesBack();
        comesBackAtAnyTime();
        registersComeBack();
        latchComesBack();
        powerMakesAllNew();
        twoStates();
        secondKeepLeavesNothingOfTheFirst();
        bothPlacesInTurn();
        nothingKeptIsNoState();
        offComesBack();
        anotherCartridgeBetween();
        anotherRamBetween();
        asideStays();
        sameCallsSameAnswers();
        Checks.end("StatesTest");
    }

    private static void wrongInputs() {
        HandheldPair x = new Rom().start();
        int[] wrong = {-1, 2, Integer.MIN_VALUE, Integer.MAX_VALUE};
        for (int k : wrong) {
            Checks.dueThrow("keep " + k, IndexOutOfBoundsException.class, () -> x.keep(k));
            Checks.dueThrow("take " + k, IndexOutOfBoundsException.class, () -> x.take(k));
        }
        Checks.dueThrow("take 0", IllegalStateException.class, () -> x.take(0));
        x.keep(0);
        Checks.dueThrow("take 1", IllegalStateException.class, () -> x.take(1));
        x.take(0);
    }

    private static void keepChangesNothing() {
        for (int view = 0; view < Look.VIEWS; view++) {
            HandheldPair x = Programs.busyPair();
            long before = Look.at(x, view);
            x.keep(1);
            Checks.due("keep changes nothing", Look.at(x, view), before);
        }
    }

    private static void comesBack() {
        for (int view = 0; view < Look.VIEWS; view++) {
            HandheldPair x = Programs.busyPair();
            long before = Look.at(x, view);
            x.keep(1);
            x.run(70001);
            long later = Look.at(x, view);
            x.keys(1, 0xC3);
            x.run(5);
            x.take(1);
            Checks.due("as it was", Look.at(x, view), before);
            x.run(70001);
            Checks.due("it goes on as it did", Look.at(x, view), later);
            x.take(1);
            Checks.due("once more", Look.at(x, view), before);
            Checks.due("its RAM", x.saved(0, 0), 0x33);
        }
    }

    private static void comesBackAtAnyTime() {
        for (int start = 500; start < 12000; start += 215) {
            int view = start / 215 % Look.VIEWS;
            HandheldPair x = (start % 2 == 0 ? Programs.busy() : Programs.copying(0x80)).start();
            (start % 4 < 2 ? Programs.copying(0x81) : Programs.noisy()).insertInto(x, 1);
            x.run(start);
            long before = Look.at(x, view);
            x.keep(0);
            x.run(300);
            long soon = Look.at(x, view);
            x.run(9000);
            long later = Look.at(x, view);
            x.run(3000 + start);
            x.take(0);
            Checks.due("as it was at " + start, Look.at(x, view), before);
            x.run(300);
            Checks.due("then soon, " + start, Look.at(x, view), soon);
            x.run(9000);
            Checks.due("then later, " + start, Look.at(x, view), later);
        }
    }

    /** Two sets of registers: the state is kept with the first, and taken back behind the second. */
    private static void registersComeBack() {
        for (int view = 0; view < Look.VIEWS; view++) {
            registersComeBack(view);
        }
    }

    private static void registersComeBack(int view) {
        Rom rom = new Rom(0x800).kind(0x10, 3).colour().poke(0, 10).poke(0x2000, 5).poke(0x4000, 9).poke(0xA000, 5)
            .ldh(0x55, 0x83).ldh(0x55, 0x12).ldh(0x4F, 1).ldh(0x26, 0).ldh(0x6A, 0x85).ldh(0x00, 0x10);
        int first = rom.here();
        rom.nops(60).poke(0x6000, 0).poke(0x6000, 1).nops(60);
        int latched = rom.here();
        rom.poke(0xA000, 20).poke(0x2000, 9).poke(0x4000, 1).poke(0, 0).ldh(0x55, 0x87).ldh(0x4F, 0).ldh(0x26, 0x80).ldh(0x6A, 0)
            .ldh(0x00, 0x20).stay();
        HandheldPair x = rom.start();
        runToPlace(x, first + 10);
        x.keep(0);
        long before = Look.at(x, view);
        x.run(2000);
        Checks.due("the second set", x.about(0, 21), 9);
        x.take(0);
        Checks.due("the first set", Look.at(x, view), before);
        Checks.due("55", x.memory(0, 0xFF55), 0x92);
        runToPlace(x, latched - 10);
        Checks.due("minutes of then", x.memory(0, 0xA000), 5);
    }

    private static void runToPlace(HandheldPair x, int pc) {
        for (int i = 0; i < 100 && x.about(0, 9) < pc; i++) {
            x.run(12);
        }
    }

    /** The 0 that makes a later 1 latch the clock is part of the state. */
    private static void latchComesBack() {
        Rom rom = new Rom().kind(0x10, 0).poke(0, 10).poke(0x4000, 8).code(0x16, 0x03, 0x01, 0x00, 0x00)
            .code(0x0B, 0x78, 0xB1, 0x20, 0xFB, 0x15, 0x20, 0xF5).poke(0x6000, 0).nops(250).poke(0x6000, 1).stay();
        HandheldPair x = rom.start();
        // Three times 65,536 rounds of 28 DOTS; then the 0 is written, and 1,000 DOTS later the 1.
        Go.toTime(x, 3L * 65536 * 28 + 600);
        x.keep(0);
        Checks.due("between the two", x.about(0, 9) < rom.here() - 7 && x.about(0, 9) > rom.here() - 250 ? 1 : 0, 1);
        Checks.due("not latched", x.memory(0, 0xA000), 0);
        x.run(1000);
        Checks.due("latched", x.memory(0, 0xA000), 1);
        x.take(0);
        Checks.due("not latched", x.memory(0, 0xA000), 0);
        x.run(1000);
        Checks.due("latched", x.memory(0, 0xA000), 1);
    }

    private static Rom program(int kind) {
        return kind == 0 ? Programs.busy() : kind == 1 ? Programs.noisy() : Programs.copying(0x81);
    }

    /** Behind power all goes as with a new cartridge, but for RAM and TIME. */
    private static void powerMakesAllNew() {
        int[] starts = {700, 1300, 2500, 3001, 7777, 50000, 70001};
        for (int start : starts) {
            for (int kind = 0; kind < 3; kind++) {
                for (int view = kind; view < Look.VIEWS; view += 3) {
                    powerMakesAllNew(start, kind, view);
                }
            }
        }
    }

    private static void powerMakesAllNew(int start, int kind, int view) {
        HandheldPair x = program(kind).start();
        HandheldPair fresh = program(kind).start();
        x.keys(0, 0x21);
        x.run(start);
        x.keys(0, 0);
        x.power(0);
        int gap = (int) (x.time(0) - x.count(1));
        if (gap > 0) {
            x.run(gap);
        }
        long from = x.time(0);
        int[] lengths = {4, 100, 500, 1000, 3000, 9000, 40000};
        for (int n : lengths) {
            Checks.due("steps", x.run(n), fresh.run(n));
            Checks.due("TIME", x.time(0) - from, fresh.time(0));
            Checks.due("picture", x.picture(0), fresh.picture(0));
            for (int what = 0; what <= 25; what++) {
                Checks.due("about " + what + " behind power at " + start, x.about(0, what), fresh.about(0, what));
            }
            for (int i = 0; i < Look.addresses(); i++) {
                int address = Look.address(view, i);
                Checks.due("memory " + Integer.toHexString(address), x.memory(0, address), fresh.memory(0, address));
            }
        }
    }

    private static void twoStates() {
        for (int view = 0; view < Look.VIEWS; view++) {
            HandheldPair x = Programs.busyPair();
            x.keep(0);
            long first = Look.at(x, view);
            x.run(777);
            x.keep(1);
            long second = Look.at(x, view);
            x.run(60000);
            x.take(0);
            Checks.due("state 0", Look.at(x, view), first);
            x.take(1);
            Checks.due("state 1", Look.at(x, view), second);
            x.run(100);
            x.keep(0);
            long third = Look.at(x, view);
            x.take(1);
            x.take(0);
            Checks.due("state 0 anew", Look.at(x, view), third);
        }
    }

    /** What a console that is OFF, or of another kind, keeps into a place that was used before is all that is there. */
    private static void secondKeepLeavesNothingOfTheFirst() {
        for (int view = 0; view < Look.VIEWS; view++) {
            HandheldPair x = Programs.busyPair();
            x.keep(0);
            Programs.noisy().insertInto(x, 0);
            Checks.dueThrow("refused", UnsupportedOperationException.class, () -> x.insert(1));
            x.run(4000);
            long second = Look.at(x, view);
            x.keep(0);
            x.run(6000);
            long later = Look.at(x, view);
            Programs.busy().insertInto(x, 1);
            Programs.copying(0x81).insertInto(x, 0);
            x.run(3000);
            x.take(0);
            Checks.due("as it was kept the second time", Look.at(x, view), second);
            Checks.dueThrow("OFF", IllegalStateException.class, () -> x.power(1));
            x.run(6000);
            Checks.due("it goes on as it did", Look.at(x, view), later);
        }
    }

    private static void bothPlacesInTurn() {
        for (int view = 0; view < Look.VIEWS; view++) {
            HandheldPair x = Programs.busyPair();
            long[] due = new long[2];
            for (int turn = 0; turn < 4; turn++) {
                int k = turn % 2;
                x.run(3333);
                due[k] = Look.at(x, view);
                x.keep(k);
                if (turn > 0) {
                    x.run(500 + turn);
                    x.take(1 - k);
                    Checks.due("the other place, turn " + turn, Look.at(x, view), due[1 - k]);
                    x.take(k);
                }
            }
            Checks.due("place 1", Look.at(x, view), due[1]);
        }
    }

    /** The places are there from the first on; that is no state that can be taken. */
    private static void nothingKeptIsNoState() {
        HandheldPair x = Programs.busyPair();
        long before = Look.at(x, 0);
        Checks.dueThrow("take 0 before any keep", IllegalStateException.class, () -> x.take(0));
        Checks.dueThrow("take 1 before any keep", IllegalStateException.class, () -> x.take(1));
        Checks.dueThrow("keep 2", IndexOutOfBoundsException.class, () -> x.keep(2));
        Checks.dueThrow("take 0, behind a keep that was refused", IllegalStateException.class, () -> x.take(0));
        Checks.due("nothing changed", Look.at(x, 0), before);
        x.keep(1);
        Checks.dueThrow("take 0, behind a keep of 1", IllegalStateException.class, () -> x.take(0));
        x.run(1000);
        x.take(1);
        Checks.due("1 alone was kept", Look.at(x, 0), before);
        Checks.dueThrow("take 0, behind a take of 1", IllegalStateException.class, () -> x.take(0));
    }

    private static void offComesBack() {
        HandheldPair x = new HandheldPair();
        x.keys(0, 0x11);
        x.keep(0);
        x.run(100);
        new Rom().kind(3, 2).stay().insertInto(x, 0);
        x.keys(0, 0);
        x.run(100);
        x.keep(1);
        x.take(0);
        Checks.due("GOAL", x.count(1), 0);
        Checks.due("TIME", x.time(0), 0);
        Checks.due("OFF", x.about(0, 9), 0);
        Checks.dueThrow("OFF", IllegalStateException.class, () -> x.power(0));
        new Rom().stay().insertInto(x, 0);
        Checks.due("keys of then", x.memory(0, 0xFF00), 0xCE);
        Checks.dueThrow("another cartridge", IndexOutOfBoundsException.class, () -> x.saved(0, 0));
        x.take(1);
        Checks.due("the cartridge of then", x.saved(0, 8191), 0);
        Checks.due("GOAL", x.count(1), 200);
        Checks.due("keys", x.memory(0, 0xFF00), 0xCF);
        Checks.due("power", x.power(0), x.time(0));
    }

    private static void anotherCartridgeBetween() {
        for (int view = 0; view < Look.VIEWS; view++) {
            HandheldPair x = Programs.busyPair();
            long before = Look.at(x, view);
            x.keep(0);
            x.run(5000);
            Programs.noisy().insertInto(x, 0);
            Programs.copying(0x81).insertInto(x, 1);
            x.run(7000);
            x.take(0);
            Checks.due("as it was", Look.at(x, view), before);
            Programs.noisy().insertInto(x, 1);
            x.run(9000);
            x.keep(1);
            long noise = Look.at(x, view);
            Programs.busy().insertInto(x, 1);
            x.run(3000);
            x.take(1);
            Checks.due("from COLOUR to none", Look.at(x, view), noise);
        }
    }

    private static void anotherRamBetween() {
        Rom small = new Rom().kind(6, 0).poke(0, 10).poke(0xA005, 0x0B).stay();
        HandheldPair y = small.start();
        y.run(100);
        y.keep(0);
        new Rom().kind(3, 3).poke(0, 10).poke(0xA005, 0x77).stay().insertInto(y, 0);
        y.run(100);
        y.keep(1);
        y.take(0);
        Checks.due("512 bytes, four bits of each", y.memory(0, 0xA205), 0xFB);
        y.take(1);
        Checks.due("whole bytes", y.memory(0, 0xA005), 0x77);
        Checks.due("four banks", y.saved(0, 32767), 0);
    }

    private static void asideStays() {
        HandheldPair x = new Rom().put(0x100, 0x18, 0xFE).start();
        x.run(120);
        x.keep(0);
        x.run(120);
        x.end(77);
        Checks.dueThrow("refused", UnsupportedOperationException.class, () -> x.insert(1));
        x.end(55);
        x.take(0);
        Checks.due("THE TAPE", x.count(0), 55);
        Checks.due("refusals", x.refused(), 1);
        Checks.due("instructions of all runs", x.count(2), 20);
        Checks.due("GOAL", x.count(1), 120);
        x.run(12);
        Checks.due("instructions of all runs", x.count(2), 21);
    }

    private static void sameCallsSameAnswers() {
        for (int view = 0; view < Look.VIEWS; view++) {
            Checks.due("two pairs", Look.at(Programs.busyPair(), view), Look.at(Programs.busyPair(), view));
        }
    }
}
