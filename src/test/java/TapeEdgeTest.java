import java.util.NoSuchElementException;

/** Promises 2 to 4: the tape when it is empty, full, just long enough and just too short. */
public final class TapeEdgeTest {
    private static final int FULL = 65536;

    public static void main(String[] args) {
        feedOfAnEmptyTape();
        feedOfTheLastRoom();
        feedWithoutRoom();
        endAtItsLimits();
        endBeyondItsLimits();
        endThatCutsForgets();
        patchOfTheFirstAndTheLast();
        patchOfNone();
        patchKeepsEightBits();
        sumNeedsItsByte();
        sumIsOfJustItsBytes();
        sumOnlyIfWanted();
        Checks.end("TapeEdgeTest");
    }

    /** A cartridge with four banks whose program chooses bank 3; it has so many bytes on the tape. */
    private static Rom bankThree(int length) {
        return new Rom(length).kind(1, 0).poke(0x2000, 3).stay();
    }

    private static void feedOfAnEmptyTape() {
        HandheldPair x = new HandheldPair();
        Checks.due("feed", x.feed(0x01020304, 0xFFFEFDFC, 0x80000000, 0x7F, Integer.MIN_VALUE + 255), 20);
        Checks.due("count", x.count(0), 20);
        x.end(0x150);
        x.patch(0x14F, 0, true);
        x.insert(0);
        int[] want = {1, 2, 3, 4, 255, 254, 253, 252, 128, 0, 0, 0, 0, 0, 0, 127, 128, 0, 0, 255, 0};
        for (int i = 0; i < want.length; i++) {
            Checks.due("byte " + i, x.memory(0, i), want[i]);
        }
    }

    /** At most 65,536 bytes: 20 more have room behind 65,516. */
    private static void feedOfTheLastRoom() {
        HandheldPair x = new HandheldPair();
        bankThree(65516).bringTo(x);
        Checks.due("feed", x.feed(0x11121314, 0x15161718, 0x191A1B1C, 0x1D1E1F20, 0x21222324), FULL);
        Checks.due("count", x.count(0), FULL);
        Checks.due("banks", x.insert(0), 4);
        x.run(100);
        for (int i = 0; i < 20; i++) {
            Checks.due("byte " + (65516 + i), x.memory(0, 0x7FEC + i), 0x11 + i);
        }
        Checks.due("the byte before", x.memory(0, 0x7FEB), 0);
    }

    /** IllegalStateException: there is no room for 20 (nothing comes then). */
    private static void feedWithoutRoom() {
        int[] lengths = {65517, 65535, FULL};
        for (int length : lengths) {
            HandheldPair x = new HandheldPair();
            bankThree(length).bringTo(x);
            long before = Look.at(x, 0);
            Checks.dueThrow("feed behind " + length, IllegalStateException.class, () -> x.feed(-1, -1, -1, -1, -1));
            Checks.due("nothing came", Look.at(x, 0), before);
            Checks.due("nothing came", x.count(0), length);
            x.end(FULL);
            x.insert(0);
            x.run(100);
            for (int i = 0; i < 20; i++) {
                Checks.due("byte " + (65516 + i), x.memory(0, 0x7FEC + i), 0);
            }
        }
    }

    private static void endAtItsLimits() {
        HandheldPair x = new HandheldPair();
        Checks.due("0 of an empty one", x.end(0), 0);
        Checks.due("65,536", x.end(FULL), FULL);
        Checks.due("count", x.count(0), FULL);
        Checks.due("65,536 again", x.end(FULL), FULL);
        Checks.due("65,535", x.end(FULL - 1), FULL - 1);
        Checks.due("1", x.end(1), 1);
        Checks.due("0", x.end(0), 0);
        Checks.due("count", x.count(0), 0);
    }

    /** IllegalArgumentException: not 0 .. 65,536. */
    private static void endBeyondItsLimits() {
        HandheldPair x = new HandheldPair();
        x.feed(1, 2, 3, 4, 5);
        long before = Look.at(x, 0);
        int[] wrong = {-1, FULL + 1, Integer.MIN_VALUE, Integer.MAX_VALUE};
        for (int n : wrong) {
            Checks.dueThrow("end " + n, IllegalArgumentException.class, () -> x.end(n));
        }
        Checks.due("nothing changed", Look.at(x, 0), before);
        Checks.due("the length stays", x.count(0), 20);
        x.end(0x150);
        x.patch(0x14F, 0, true);
        x.insert(0);
        Checks.due("the bytes stay", x.memory(0, 19), 5);
    }

    /** Only the first n bytes stay; zeros come, not the bytes that were there before. */
    private static void endThatCutsForgets() {
        HandheldPair x = new HandheldPair();
        x.feed(-1, -1, -1, -1, -1);
        x.end(5);
        x.end(20);
        x.feed(-1, -1, -1, -1, -1);
        x.end(40);
        x.end(39);
        x.end(0x150);
        x.patch(0x14F, 0, true);
        x.insert(0);
        int[][] want = {{4, 255}, {5, 0}, {19, 0}, {20, 255}, {38, 255}, {39, 0}, {40, 0}};
        for (int[] w : want) {
            Checks.due("byte " + w[0], x.memory(0, w[0]), w[1]);
        }
    }

    private static void patchOfTheFirstAndTheLast() {
        HandheldPair x = new HandheldPair();
        bankThree(FULL).bringTo(x);
        x.patch(0, 0x41, false);
        x.patch(FULL - 1, 0x42, false);
        Checks.due("the length stays", x.count(0), FULL);
        x.insert(0);
        x.run(100);
        Checks.due("the first", x.memory(0, 0), 0x41);
        Checks.due("the last", x.memory(0, 0x7FFF), 0x42);
        Checks.due("the last but one", x.memory(0, 0x7FFE), 0);
    }

    /** NoSuchElementException: no such byte. */
    private static void patchOfNone() {
        HandheldPair empty = new HandheldPair();
        Checks.dueThrow("byte 0 of none", NoSuchElementException.class, () -> empty.patch(0, 1, true));
        Checks.due("the tape", empty.count(0), 0);
        HandheldPair x = new HandheldPair();
        x.end(0x150);
        x.patch(0, 0, true);
        x.patch(0x134, 1, false);
        long before = Look.at(x, 0);
        int[] wrong = {-1, 0x150, 0x151, FULL, Integer.MIN_VALUE, Integer.MAX_VALUE};
        for (int at : wrong) {
            Checks.dueThrow("patch " + at, NoSuchElementException.class, () -> x.patch(at, 255, true));
        }
        Checks.due("nothing changed", Look.at(x, 0), before);
        Checks.dueThrow("no sum was made", UnsupportedOperationException.class, () -> x.insert(0));
        Checks.due("no sum was made", x.refused(), 2);
    }

    private static void patchKeepsEightBits() {
        HandheldPair x = new HandheldPair();
        x.end(0x150);
        int[] values = {255, 256, 257, -1, -256, Integer.MAX_VALUE, Integer.MIN_VALUE, 0x12345680};
        int[] kept = {255, 0, 1, 255, 0, 255, 0, 0x80};
        for (int i = 0; i < values.length; i++) {
            x.patch(i, values[i], i == values.length - 1);
        }
        x.insert(0);
        for (int i = 0; i < values.length; i++) {
            Checks.due("the low 8 bits of " + values[i], x.memory(0, i), kept[i]);
        }
    }

    /** The byte at $14D is made right, if there are $14E. */
    private static void sumNeedsItsByte() {
        HandheldPair x = new HandheldPair();
        x.end(0x14E);
        x.patch(0x134, 5, true);
        x.end(0x150);
        Checks.due("$14E are enough", x.insert(0), 2);
        Checks.due("the sum", x.memory(0, 0x14D), -25 - 5 & 255);
        x.end(0x14D);
        x.patch(0x134, 5, true);
        Checks.due("no byte comes by that", x.count(0), 0x14D);
        x.end(0x150);
        Checks.dueThrow("$14D are not", UnsupportedOperationException.class, () -> x.insert(0));
        Checks.due("$14D are not", x.refused(), 2);
    }

    /** The sum is of the bytes from $134 to $14C, just these, modulo 256. */
    private static void sumIsOfJustItsBytes() {
        int[][] cases = {{0x133, 9, 0}, {0x134, 9, 9}, {0x14C, 9, 9}, {0x14D, 9, 0}, {0x14E, 9, 0}, {0x140, 255, 255}};
        for (int[] c : cases) {
            HandheldPair x = new HandheldPair();
            x.end(0x150);
            x.patch(c[0], c[1], true);
            Checks.due("insert", x.insert(0), 2);
            Checks.due("the sum with byte " + c[0], x.memory(0, 0x14D), -25 - c[2] & 255);
        }
    }

    private static void sumOnlyIfWanted() {
        HandheldPair x = new HandheldPair();
        x.end(0x150);
        x.patch(0x14D, -25, false);
        Checks.due("a sum that is right by itself", x.insert(0), 2);
        x.end(0x150);
        x.patch(0x14D, -24, false);
        Checks.dueThrow("one more", UnsupportedOperationException.class, () -> x.insert(0));
        x.end(0x150);
        x.patch(0x14D, -26, false);
        Checks.dueThrow("one less", UnsupportedOperationException.class, () -> x.insert(0));
        Checks.due("one less", x.refused(), 2);
    }
}
