import java.util.NoSuchElementException;

/** Promises 2 feed, 3 end, 4 patch and 18 count(0), seen through cartridges made of the tape. */
public final class TapeTest {
    public static void main(String[] args) {
        feedTakesTwentyBytes();
        feedNeedsRoom();
        endCutsAndFills();
        patchSetsBytes();
        patchMakesTheSum();
        Checks.end("TapeTest");
    }

    private static void feedTakesTwentyBytes() {
        HandheldPair x = new HandheldPair();
        Checks.due("feed", x.feed(0x01020304, 0x05060708, 0x090A0B0C, 0x0D0E0F10, 0xF1F2F3F4), 20);
        Checks.due("feed", x.feed(-1, 0, 0, 0, 0x80FF7F01), 40);
        Checks.due("count", x.count(0), 40);
        x.end(0x150);
        x.patch(0x100, 0, true);
        x.insert(0);
        int[] want = {1, 2, 3, 4, 5, 6, 7, 8, 9, 10, 11, 12, 13, 14, 15, 16, 0xF1, 0xF2, 0xF3, 0xF4, 255, 255, 255, 255, 0};
        for (int i = 0; i < want.length; i++) {
            Checks.due("byte " + i, x.memory(0, i), want[i]);
        }
        Checks.due("byte 36", x.memory(0, 36), 0x80);
        Checks.due("byte 39", x.memory(0, 39), 1);
    }

    private static void feedNeedsRoom() {
        HandheldPair x = new HandheldPair();
        x.end(65516);
        Checks.due("the last feed", x.feed(1, 2, 3, 4, 5), 65536);
        Checks.dueThrow("feed to a full tape", IllegalStateException.class, () -> x.feed(1, 2, 3, 4, 5));
        x.end(65517);
        Checks.dueThrow("feed with 19 left", IllegalStateException.class, () -> x.feed(-1, -1, -1, -1, -1));
        Checks.due("nothing came", x.count(0), 65517);
        x.end(65536);
        x.patch(0x100, 0, true);
        x.patch(0x147, 1, true);
        x.insert(0);
        Checks.due("byte behind the cut", x.memory(0, 0x7FFF), 0);
    }

    private static void endCutsAndFills() {
        HandheldPair x = new HandheldPair();
        x.feed(-1, -1, -1, -1, -1);
        Checks.due("end", x.end(20), 20);
        Checks.due("end", x.end(3), 3);
        Checks.due("count", x.count(0), 3);
        Checks.due("end", x.end(0x150), 0x150);
        Checks.dueThrow("end -1", IllegalArgumentException.class, () -> x.end(-1));
        Checks.dueThrow("end 65,537", IllegalArgumentException.class, () -> x.end(65537));
        Checks.dueThrow("end least", IllegalArgumentException.class, () -> x.end(Integer.MIN_VALUE));
        Checks.due("count behind throws", x.count(0), 0x150);
        x.patch(0x100, 0, true);
        x.insert(1);
        Checks.due("byte that stayed", x.memory(1, 2), 255);
        Checks.due("byte that was cut, then filled", x.memory(1, 3), 0);
        Checks.due("end 65,536", x.end(65536), 65536);
        Checks.due("end 0", x.end(0), 0);
        Checks.due("count", x.count(0), 0);
    }

    private static void patchSetsBytes() {
        HandheldPair x = new HandheldPair();
        Checks.dueThrow("patch of nothing", NoSuchElementException.class, () -> x.patch(0, 1, false));
        x.end(0x150);
        Checks.dueThrow("patch -1", NoSuchElementException.class, () -> x.patch(-1, 1, true));
        Checks.dueThrow("patch behind the end", NoSuchElementException.class, () -> x.patch(0x150, 1, true));
        x.patch(0x14F, 0x1FE, false);
        x.patch(0, -1, false);
        x.patch(1, 0x12345600, false);
        x.patch(0x100, 0x18, true);
        Checks.due("insert", x.insert(0), 2);
        Checks.due("low 8 bits", x.memory(0, 0x14F), 0xFE);
        Checks.due("of -1", x.memory(0, 0), 255);
        Checks.due("of 0x12345600", x.memory(0, 1), 0);
        Checks.dueThrow("patch of the tape that went", NoSuchElementException.class, () -> x.patch(0, 1, false));
    }

    private static void patchMakesTheSum() {
        HandheldPair x = new HandheldPair();
        x.end(0x150);
        x.patch(0x134, 7, true);
        x.patch(0x14C, 9, true);
        x.insert(0);
        Checks.due("the sum", x.memory(0, 0x14D), (-25 - 16) & 255);

        x.end(0x14E);
        x.patch(0x14D, 0x55, true);
        x.end(0x150);
        Checks.due("a sum just within the tape", x.insert(0), 2);
        Checks.due("the sum", x.memory(0, 0x14D), (-25) & 255);

        x.end(0x14D);
        x.patch(0x134, 1, true);
        x.end(0x150);
        Checks.dueThrow("no sum is made of $14D bytes", UnsupportedOperationException.class, () -> x.insert(0));
        Checks.due("refused", x.refused(), 2);

        x.end(0x150);
        x.patch(0x134, 0, true);
        x.patch(0x134, 1, false);
        Checks.dueThrow("no sum without asking", UnsupportedOperationException.class, () -> x.insert(0));
    }
}
