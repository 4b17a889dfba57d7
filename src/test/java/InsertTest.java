import java.util.NoSuchElementException;

/** Promises 5 insert and 6 refused. */
public final class InsertTest {
    public static void main(String[] args) {
        banksAreCounted();
        refusalsComeInOrder();
        refusedConsoleIsOff();
        tapeIsEmptyAfterwards();
        powerIsOn(false);
        powerIsOn(true);
        memoryOfTheCartridgeIsNew();
        keysAndTimeStay();
        Checks.end("InsertTest");
    }

    private static void banksAreCounted() {
        int[][] sizes = {{0x150, 2}, {0x8000, 2}, {0x8001, 4}, {0xC000, 4}, {0xC001, 4}, {0x10000, 4}};
        for (int[] size : sizes) {
            HandheldPair x = new HandheldPair();
            Checks.due("banks of " + size[0], new Rom(size[0] == 0x150 ? 0x152 : size[0]).insertInto(x, 0), size[1]);
        }
        HandheldPair x = new HandheldPair();
        x.end(0x150);
        x.patch(0, 0, true);
        Checks.due("the shortest", x.insert(1), 2);
        Checks.due("byte beyond it", x.memory(1, 0x150), 255);
        Checks.due("byte beyond it", x.memory(1, 0x7FFF), 255);
        Checks.due("its last byte", x.memory(1, 0x14F), 0);
    }

    private static void refusal(String what, int want, Rom rom, boolean rightSum) {
        HandheldPair x = new HandheldPair();
        rom.bringTo(x);
        if (!rightSum) {
            x.patch(0x14D, rom.bytes[0x14D] + 1, false);
        }
        Checks.dueThrow(what, UnsupportedOperationException.class, () -> x.insert(0));
        Checks.due(what, x.refused(), want);
        Checks.due(what + ": tape", x.count(0), 0);
    }

    private static void refusalsComeInOrder() {
        refusal("too short", 1, new Rom().kind(4, 1).cutTo(0x14F), true);
        HandheldPair empty = new HandheldPair();
        Checks.dueThrow("empty", UnsupportedOperationException.class, () -> empty.insert(0));
        Checks.due("empty", empty.refused(), 1);
        refusal("sum before kind", 2, new Rom().kind(4, 1), false);
        refusal("kind before RAM", 3, new Rom().kind(4, 1), true);
        refusal("RAM", 4, new Rom().kind(1, 1), true);
        refusal("RAM of M2", 4, new Rom().kind(5, 4), true);
        refusal("RAM of kind 0", 4, new Rom().kind(0, 255), true);
        String good = "\u0000\u0001\u0002\u0003\u0005\u0006\u000f\u0010\u0011\u0012\u0013\u0019\u001a\u001b\u001c\u001d\u001e";
        for (int kind = 0; kind < 256; kind++) {
            if (good.indexOf(kind) < 0) {
                refusal("kind " + kind, 3, new Rom().kind(kind, 0), true);
            } else {
                HandheldPair x = new HandheldPair();
                Checks.due("kind " + kind, new Rom().kind(kind, 3).insertInto(x, 0), 2);
                Checks.due("kind " + kind, x.refused(), 0);
            }
        }
    }

    private static void refusedConsoleIsOff() {
        HandheldPair x = new Rom().code(0x18, 0xFE).start();
        x.run(1000);
        long time = x.time(0);
        Checks.dueThrow("refused", UnsupportedOperationException.class, () -> x.insert(0));
        Checks.due("refused", x.refused(), 1);
        Checks.due("TIME stays", x.time(0), time);
        Checks.due("OFF: A", x.about(0, 0), 0);
        Checks.due("OFF: memory", x.memory(0, 0x100), 0);
        Checks.dueThrow("OFF: power", IllegalStateException.class, () -> x.power(0));
        Checks.due("OFF: nothing goes on", x.run(1000), 0);
        Checks.due("OFF: TIME stays", x.time(0), time);
        new Rom().insertInto(x, 0);
        Checks.due("an insert that goes well leaves the refusal", x.refused(), 1);
        Checks.due("TIME becomes GOAL", x.time(0), 2000);
    }

    private static void tapeIsEmptyAfterwards() {
        HandheldPair x = new HandheldPair();
        new Rom().insertInto(x, 0);
        Checks.due("behind insert", x.count(0), 0);
        int[] consoles = {-1, 2, Integer.MAX_VALUE, Integer.MIN_VALUE};
        for (int c : consoles) {
            x.end(10);
            Checks.dueThrow("insert " + c, NoSuchElementException.class, () -> x.insert(c));
            Checks.due("the tape behind it", x.count(0), 0);
            Checks.due("no refusal", x.refused(), 0);
        }
        Checks.due("console 0 is still on", x.about(0, 0), 1);
    }

    private static void powerIsOn(boolean colour) {
        Rom rom = new Rom();
        if (colour) {
            rom.colour();
        }
        HandheldPair x = rom.start();
        int[] want = {colour ? 0x11 : 1, 0xB0, 0, 0x13, 0, 0xD8, 1, 0x4D, 0xFFFE, 0x100, 0, 0, 0, 0, 0, 0, 0, 0, 0, 0, 0, 1, 0, 0, 0, 0};
        for (int what = 0; what < want.length; what++) {
            Checks.due("about " + what, x.about(0, what), want[what]);
        }
        Checks.due("P1", x.memory(0, 0xFF00), 0xCF);
        Checks.due("IF", x.memory(0, 0xFF0F), 0xE1);
        Checks.due("IE", x.memory(0, 0xFFFF), 0);
        Checks.due("LCDC", x.memory(0, 0xFF40), 0x91);
        Checks.due("STAT", x.memory(0, 0xFF41), 0x84);
        Checks.due("BGP", x.memory(0, 0xFF47), 0xFC);
        Checks.due("26", x.memory(0, 0xFF26), 0xF0);
        Checks.due("55", x.memory(0, 0xFF55), 0xFF);
        Checks.due("a colour", x.memory(0, 0xFF69), 0xFF);
        Checks.due("a sprite's colour", x.memory(0, 0xFF6B), 0xFF);
        Checks.due("VIDEO", x.memory(0, 0x8000), 0);
        Checks.due("WORK", x.memory(0, 0xC000), 0);
        Checks.due("picture", x.picture(0), 0);
    }

    private static void memoryOfTheCartridgeIsNew() {
        Rom rom = new Rom().kind(0x10, 3).poke(0, 10).poke(0xA000, 0x5A).poke(0x4000, 9).poke(0xA000, 33).stay();
        HandheldPair x = rom.start();
        x.run(400);
        Checks.due("saved", x.saved(0, 0), 0x5A);
        Checks.due("minutes", x.memory(0, 0xA000), 33);
        new Rom().kind(0x10, 3).poke(0, 10).poke(0x4000, 9).stay().insertInto(x, 0);
        x.run(400);
        Checks.due("saved anew", x.saved(0, 0), 0);
        Checks.due("minutes anew", x.memory(0, 0xA000), 0);
    }

    private static void keysAndTimeStay() {
        HandheldPair x = new HandheldPair();
        x.keys(1, 0x21);
        x.run(100);
        x.run(23);
        new Rom().stay().insertInto(x, 1);
        Checks.due("TIME is GOAL", x.time(1), 123);
        Checks.due("keys of before", x.memory(1, 0xFF00), 0xCC);
        Checks.due("keys that are down ask for nothing", x.memory(1, 0xFF0F), 0xE1);
        x.run(2);
        Checks.due("TIME is above GOAL", x.time(1), 139);
        new Rom().stay().insertInto(x, 1);
        Checks.due("TIME stays", x.time(1), 139);
        Checks.due("keys stay", x.memory(1, 0xFF00), 0xCC);
    }
}
