import java.util.NoSuchElementException;

/** Promises 5 and 6: images of all lengths, refusals and their order, and what they leave as it was. */
public final class InsertEdgeTest {
    public static void main(String[] args) {
        lengths();
        bytesBeyondTheImage();
        tooShort();
        firstRefusalThatHolds();
        kinds();
        ramCodes();
        ramSizes();
        colourIsBitSeven();
        noSuchConsole();
        noSuchConsoleComesFirst();
        refusedIsOff();
        refusedLeavesTheOther();
        lastRefusalStays();
        tapeIsEmpty();
        insertOverInsert();
        keysStay();
        keysStayOverARefusal();
        timeBecomesGoal();
        clockIsNew();
        Checks.end("InsertEdgeTest");
    }

    /** B: the least power of two, 2 or more, that holds it. */
    private static void lengths() {
        int[][] cases = {{0x150, 2}, {0x4000, 2}, {0x4001, 2}, {0x7FFF, 2}, {0x8000, 2}, {0x8001, 4}, {0xBFFF, 4}, {0xC001, 4}, {0xFFFF, 4}, {0x10000, 4}};
        for (int[] c : cases) {
            HandheldPair x = new HandheldPair();
            x.end(c[0]);
            x.patch(0x100, 0, true);
            Checks.due("banks of " + c[0], x.insert(0), c[1]);
            Checks.due("on", x.about(0, 9), 0x100);
        }
    }

    /** Bytes beyond it are $FF; banks are chosen modulo B. */
    private static void bytesBeyondTheImage() {
        HandheldPair x = new HandheldPair();
        x.end(0x150);
        x.patch(0x14F, 0x77, true);
        x.insert(0);
        Checks.due("the last", x.memory(0, 0x14F), 0x77);
        Checks.due("behind it", x.memory(0, 0x150), 255);
        Checks.due("at the end of bank 0", x.memory(0, 0x3FFF), 255);
        Checks.due("bank 1", x.memory(0, 0x4000), 255);
        Checks.due("the end of bank 1", x.memory(0, 0x7FFF), 255);
        int[][] cases = {{2, 0x66, 255}, {3, 255, 255}, {1, 0x55, 0x55}, {4, 0, 0xC3}, {6, 0x66, 255}, {7, 255, 255}, {31, 255, 255}};
        for (int[] c : cases) {
            HandheldPair y = new Rom(0x8001).kind(1, 0).put(0x4000, 0x55).put(0x4100, 0x55).put(0x8000, 0x66).poke(0x2000, c[0]).stay().start();
            y.run(100);
            Checks.due("first byte of bank " + c[0], y.memory(0, 0x4000), c[1]);
            Checks.due("byte $100 of bank " + c[0], y.memory(0, 0x4100), c[2]);
        }
        HandheldPair z = new Rom(0x8000).kind(1, 0).poke(0x2000, 2).stay().start();
        z.run(100);
        Checks.due("2 modulo 2 is bank 0", z.memory(0, 0x4100), 0xC3);
        HandheldPair w = new Rom(0x8000).kind(1, 0).put(0x4100, 0x44).poke(0x2000, 3).stay().start();
        w.run(100);
        Checks.due("3 modulo 2 is bank 1", w.memory(0, 0x4100), 0x44);
    }

    private static void dueRefusal(String what, HandheldPair x, int number) {
        Checks.dueThrow(what, UnsupportedOperationException.class, () -> x.insert(0));
        Checks.due(what, x.refused(), number);
        Checks.due(what + ": the tape", x.count(0), 0);
        Checks.dueThrow(what + ": OFF", IllegalStateException.class, () -> x.power(0));
    }

    private static void tooShort() {
        dueRefusal("an empty tape", new HandheldPair(), 1);
        int[] lengths = {1, 0x147, 0x14D, 0x14E, 0x14F};
        for (int length : lengths) {
            HandheldPair x = new HandheldPair();
            x.end(length);
            x.patch(0, 0, true);
            dueRefusal("of " + length, x, 1);
        }
    }

    /** A tape of so many bytes, with this kind and this RAM, the sum right or not. */
    private static HandheldPair tape(int length, int kind, int ram, boolean right) {
        HandheldPair x = new HandheldPair();
        x.end(0x150);
        x.patch(0x147, kind, true);
        x.patch(0x149, ram, true);
        if (!right) {
            x.patch(0x134, 1, false);
        }
        x.end(length);
        return x;
    }

    private static void firstRefusalThatHolds() {
        dueRefusal("1, 2, 3, 4", tape(0x14F, 4, 1, false), 1);
        dueRefusal("1, 3, 4", tape(0x14F, 4, 1, true), 1);
        dueRefusal("1, 4", tape(0x14F, 1, 1, true), 1);
        dueRefusal("2, 3, 4", tape(0x150, 4, 1, false), 2);
        dueRefusal("2, 4", tape(0x150, 1, 1, false), 2);
        dueRefusal("2", tape(0x150, 1, 0, false), 2);
        dueRefusal("3, 4", tape(0x150, 4, 1, true), 3);
        dueRefusal("3", tape(0x150, 4, 0, true), 3);
        dueRefusal("4", tape(0x150, 1, 1, true), 4);
        Checks.due("none", tape(0x150, 1, 0, true).insert(0), 2);
    }

    private static void kinds() {
        int[][] good = {{0, 3}, {5, 6}, {0x0F, 0x13}, {0x19, 0x1E}};
        for (int[] g : good) {
            Checks.due("kind " + g[0], tape(0x150, g[0], 0, true).insert(0), 2);
            Checks.due("kind " + g[1], tape(0x150, g[1], 0, true).insert(0), 2);
        }
        int[] bad = {4, 7, 0x0E, 0x14, 0x18, 0x1F, 0x80, 0xFF};
        for (int kind : bad) {
            dueRefusal("kind " + kind, tape(0x150, kind, 0, true), 3);
        }
    }

    private static void ramCodes() {
        int[] kinds = {0, 1, 5, 0x0F, 0x19};
        for (int kind : kinds) {
            for (int code = 0; code < 6; code++) {
                HandheldPair x = tape(0x150, kind, code, true);
                if (code == 0 || code == 2 || code == 3) {
                    Checks.due("RAM " + code + " of kind " + kind, x.insert(0), 2);
                } else {
                    dueRefusal("RAM " + code + " of kind " + kind, x, 4);
                }
            }
            dueRefusal("RAM 255", tape(0x150, kind, 255, true), 4);
            dueRefusal("RAM 128", tape(0x150, kind, 128, true), 4);
        }
    }

    /** RAM of 0, 1, 4 banks of 8,192 bytes; M2: 512 bytes, whichever stands there; kind 0: none. */
    private static void ramSizes() {
        int[] kinds = {0, 2, 6, 0x13, 0x1B};
        int[] codes = {0, 2, 3};
        int[] sizes = {0, 8192, 32768};
        for (int kind : kinds) {
            for (int i = 0; i < 3; i++) {
                HandheldPair x = tape(0x150, kind, codes[i], true);
                x.insert(0);
                int size = kind == 0 ? 0 : kind == 6 ? 512 : sizes[i];
                if (size > 0) {
                    Checks.due("the first byte", x.saved(0, 0), 0);
                    Checks.due("the last byte", x.saved(0, size - 1), 0);
                }
                Checks.dueThrow("behind the last of " + size, IndexOutOfBoundsException.class, () -> x.saved(0, size));
                Checks.dueThrow("before the first", IndexOutOfBoundsException.class, () -> x.saved(0, -1));
            }
        }
    }

    private static void colourIsBitSeven() {
        int[][] cases = {{0, 1}, {0x7F, 1}, {0x80, 0x11}, {0xC0, 0x11}, {0xFF, 0x11}, {0x40, 1}};
        for (int[] c : cases) {
            HandheldPair x = new HandheldPair();
            x.end(0x150);
            x.patch(0x143, c[0], true);
            x.insert(1);
            Checks.due("A with " + c[0] + " at $143", x.about(1, 0), c[1]);
            Checks.due("VBK with " + c[0] + " at $143", x.memory(1, 0xFF4F), c[1] == 1 ? 0xFF : 0xFE);
        }
    }

    private static void noSuchConsole() {
        int[] wrong = {-1, 2, 3, Integer.MIN_VALUE, Integer.MAX_VALUE};
        HandheldPair x = Programs.busyPair();
        long before = Look.at(x, 3);
        for (int c : wrong) {
            x.end(0x150);
            x.patch(0, 0, true);
            Checks.dueThrow("insert " + c, NoSuchElementException.class, () -> x.insert(c));
            Checks.due("the tape is empty", x.count(0), 0);
        }
        Checks.due("nothing else changed", Look.at(x, 3), before);
    }

    /** The first exception that fits, though the tape would be refused as well. */
    private static void noSuchConsoleComesFirst() {
        HandheldPair x = tape(0x14F, 4, 1, false);
        Checks.dueThrow("insert 2", NoSuchElementException.class, () -> x.insert(2));
        Checks.due("no refusal", x.refused(), 0);
        Checks.due("the tape is empty", x.count(0), 0);
        HandheldPair y = new HandheldPair();
        Checks.dueThrow("insert -1 of nothing", NoSuchElementException.class, () -> y.insert(-1));
        Checks.due("no refusal", y.refused(), 0);
    }

    /** It is refused (its CONSOLE is OFF then): all that is told of it but TIME is 0. */
    private static void refusedIsOff() {
        HandheldPair x = new Rom().kind(3, 3).poke(0, 10).poke(0xA000, 9).stay().start();
        x.keys(0, 0xFF);
        x.run(50000);
        long time = x.time(0);
        int goal = x.count(1);
        Checks.due("before", x.saved(0, 0), 9);
        dueRefusal("nothing", x, 1);
        for (int what = 0; what <= 25; what++) {
            Checks.due("about " + what, x.about(0, what), 0);
        }
        int[] addresses = {0, 0x4000, 0x8000, 0xA000, 0xC000, 0xFE00, 0xFF00, 0xFF0F, 0xFF40, 0xFF80, 0xFFFF};
        for (int address : addresses) {
            Checks.due("memory", x.memory(0, address), 0);
        }
        Checks.due("pixel", x.pixel(0, 0, 0), 0);
        Checks.due("picture", x.picture(0), 0);
        Checks.dueThrow("saved", IndexOutOfBoundsException.class, () -> x.saved(0, 0));
        Checks.due("TIME stays", x.time(0), time);
        Checks.due("GOAL stays", x.count(1), goal);
        Checks.due("nothing happens in it", x.run(80000), 0);
        Checks.due("TIME stays", x.time(0), time);
    }

    private static void refusedLeavesTheOther() {
        HandheldPair x = Programs.busyPair();
        HandheldPair same = Programs.busyPair();
        Checks.dueThrow("refused", UnsupportedOperationException.class, () -> x.insert(0));
        for (int what = 0; what <= 25; what++) {
            Checks.due("about " + what, x.about(1, what), same.about(1, what));
        }
        Checks.due("TIME", x.time(1), same.time(1));
        Checks.due("picture", x.picture(1), same.picture(1));
        Checks.due("it is on", x.power(1), x.time(1));
    }

    /** The number of the last refusal (an insert that goes well leaves it), 0 before the first. */
    private static void lastRefusalStays() {
        HandheldPair x = new HandheldPair();
        Checks.due("before the first", x.refused(), 0);
        int[][] tapes = {{4, 0, 3}, {1, 1, 4}, {255, 0, 3}};
        for (int[] t : tapes) {
            x.end(0x150);
            x.patch(0x147, t[0], true);
            x.patch(0x149, t[1], true);
            Checks.dueThrow("refused", UnsupportedOperationException.class, () -> x.insert(1));
            Checks.due("the last one", x.refused(), t[2]);
            x.end(0x150);
            x.patch(0, 0, true);
            x.insert(1);
            Checks.due("an insert that goes well", x.refused(), t[2]);
        }
        Checks.dueThrow("refused", UnsupportedOperationException.class, () -> x.insert(0));
        Checks.due("the last one", x.refused(), 1);
    }

    /** THE TAPE is empty then, also if this throws: the next insert finds nothing on it. */
    private static void tapeIsEmpty() {
        HandheldPair x = tape(0x150, 0, 0, true);
        x.insert(0);
        Checks.due("behind an insert", x.count(0), 0);
        dueRefusal("behind an insert", x, 1);
        HandheldPair y = tape(0x150, 4, 0, true);
        dueRefusal("kind", y, 3);
        dueRefusal("behind a refusal", y, 1);
        HandheldPair z = tape(0x150, 0, 0, true);
        Checks.dueThrow("no console", NoSuchElementException.class, () -> z.insert(2));
        dueRefusal("behind a wrong console", z, 1);
        z.end(0x150);
        z.patch(0, 0x99, true);
        z.end(3);
        z.end(0x150);
        z.patch(3, 0x98, true);
        z.insert(0);
        Checks.due("a tape written anew", z.memory(0, 0) << 8 | z.memory(0, 3), 0x9998);
        Checks.due("zeros come, not the last image", z.memory(0, 0x147), 0);
    }

    /** A second cartridge has nothing of the first: image, banks, RAM, registers. */
    private static void insertOverInsert() {
        Rom first = new Rom(0x10000).kind(0x1B, 3).put(0x7FFF, 0x31).put(0xFFFF, 0x32).poke(0, 10).poke(0x2000, 3).poke(0x4000, 3).poke(0xA000, 0x33).stay();
        HandheldPair x = first.start();
        x.run(200);
        Checks.due("bank 3", x.memory(0, 0x7FFF), 0x32);
        Checks.due("RAM bank 3", x.saved(0, 3 * 8192), 0x33);
        new Rom(0x200).kind(0x1B, 3).poke(0, 10).stay().insertInto(x, 0);
        Checks.due("LOW", x.about(0, 21), 1);
        Checks.due("HIGH", x.about(0, 22), 0);
        Checks.due("not ON", x.memory(0, 0xA000), 255);
        Checks.due("beyond the new image", x.memory(0, 0x7FFF), 255);
        Checks.due("its RAM is 0", x.saved(0, 3 * 8192), 0);
        x.run(100);
        Checks.due("ON, and 0", x.memory(0, 0xA000), 0);
    }

    private static void keysStay() {
        HandheldPair x = new HandheldPair();
        x.keys(0, 0x1FE);
        x.end(0x150);
        x.patch(0, 0, true);
        x.insert(0);
        Checks.due("keys of the time when it was OFF", x.memory(0, 0xFF00), 0xC0);
        Checks.dueThrow("refused", UnsupportedOperationException.class, () -> x.insert(0));
        x.keys(0, 0x02);
        x.end(0x150);
        x.patch(0, 0, true);
        x.insert(0);
        Checks.due("keys told behind a refusal", x.memory(0, 0xFF00), 0xCD);
        Checks.due("IF is 1", x.memory(0, 0xFF0F), 0xE1);
    }

    /** What throws changes nothing but what its comment says: keys stay over a refusal. */
    private static void keysStayOverARefusal() {
        HandheldPair x = new Rom().stay().start();
        x.keys(0, 0x21);
        Checks.dueThrow("refused", UnsupportedOperationException.class, () -> x.insert(0));
        new Rom().stay().insertInto(x, 0);
        Checks.due("P1: right and B", x.memory(0, 0xFF00), 0xCC);
    }

    /** At insert TIME becomes GOAL, if it is below; else it stays. */
    private static void timeBecomesGoal() {
        HandheldPair x = new HandheldPair();
        x.run(1);
        new Rom().stay().insertInto(x, 0);
        Checks.due("1", x.time(0), 1);
        x.run(80000);
        Checks.due("TIME is GOAL or a little more", x.time(0), 80001 + 8);
        new Rom().stay().insertInto(x, 0);
        Checks.due("above GOAL it stays", x.time(0), 80009);
        Checks.due("the other is not touched", x.time(1), 0);
        new Rom().stay().insertInto(x, 1);
        Checks.due("the other", x.time(1), 80001);
        Checks.dueThrow("refused", UnsupportedOperationException.class, () -> x.insert(1));
        x.run(10);
        Checks.due("OFF: it stays", x.time(1), 80001);
        Checks.dueThrow("refused once more", UnsupportedOperationException.class, () -> x.insert(1));
        Checks.due("a refusal leaves TIME below GOAL", x.time(1), 80001);
        HandheldPair y = new HandheldPair();
        y.run(500);
        Checks.dueThrow("refused", UnsupportedOperationException.class, () -> y.insert(0));
        Checks.due("a refusal leaves TIME 0", y.time(0), 0);
    }

    /** RAM of the cartridge and its clock all 0, LATCHED and not. */
    private static void clockIsNew() {
        Rom set = new Rom().kind(0x10, 2).poke(0, 10);
        for (int k = 8; k <= 12; k++) {
            set.poke(0x4000, k).poke(0xA000, 0x55);
        }
        HandheldPair x = set.stay().start();
        x.run(400);
        Checks.due("before", x.memory(0, 0xA000), 0x41);
        for (int k = 8; k <= 12; k++) {
            new Rom().kind(0x10, 2).poke(0, 10).poke(0x4000, k).poke(0xC000, 0).nops(20).poke(0x6000, 0).poke(0x6000, 1).stay().insertInto(x, 0);
            x.run(110);
            Checks.due("LATCHED register " + k, x.memory(0, 0xA000), 0);
            x.run(300);
            Checks.due("the clock's own register " + k, x.memory(0, 0xA000), 0);
        }
    }
}
