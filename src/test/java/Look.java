/**
 * What is told of a pair, in some sixty calls, since an object is used for 512 calls at most.
 * Each view looks at other addresses and numbers; a test that wants to see all makes its run
 * once for each view.
 */
final class Look {
    static final int VIEWS = 16;
    private static final int ADDRESSES = 12;

    private Look() {
    }

    static long at(HandheldPair x, int view) {
        long sum = x.count(0) * 31L + x.count(1);
        sum = sum * 31 + x.refused();
        for (int c = 0; c < 2; c++) {
            sum = sum * 31 + x.time(c);
            sum = sum * 31 + x.picture(c);
            for (int what = view % 2; what <= 25; what += 2) {
                sum = sum * 31 + x.about(c, what);
            }
            for (int i = 0; i < ADDRESSES; i++) {
                sum = sum * 31 + x.memory(c, address(view, i));
            }
        }
        return sum;
    }

    /** Nine of the registers and HIGH memory, which all views have in turn, and three other places. */
    static int address(int view, int i) {
        if (i < 9) {
            int which = view * 9 + i;
            return which < 128 ? 0xFF00 + which : 0xFF70 + which;
        }
        int[] places = {0x8000, 0xA000, 0xC000, 0xD000, 0xFE00, 0x4000, 0x9800, 0xC100};
        return places[(view * 3 + i) % places.length] + view * 3 % 16;
    }

    static int addresses() {
        return ADDRESSES;
    }
}
