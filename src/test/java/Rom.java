/** Builds a cartridge: its header, and a program that begins at $150. */
final class Rom {
    int[] bytes;
    private int at = 0x150;

    Rom() {
        this(0x400);
    }

    Rom(int length) {
        bytes = new int[length];
        put(0x100, 0xC3, 0x50, 0x01);
    }

    Rom kind(int kind, int ram) {
        bytes[0x147] = kind;
        bytes[0x149] = ram;
        return this;
    }

    Rom colour() {
        bytes[0x143] = 0x80;
        return this;
    }

    Rom put(int place, int... values) {
        for (int i = 0; i < values.length; i++) {
            bytes[place + i] = values[i] & 255;
        }
        return this;
    }

    Rom code(int... values) {
        put(at, values);
        at += values.length;
        return this;
    }

    Rom nops(int n) {
        at += n;
        return this;
    }

    Rom cutTo(int length) {
        bytes = java.util.Arrays.copyOf(bytes, length);
        return this;
    }

    int here() {
        return at;
    }

    /** ld a,v; ldh (low),a: five M-CYCLES, the write in the last. */
    Rom ldh(int low, int v) {
        return code(0x3E, v, 0xE0, low);
    }

    /** ld a,v; ld (address),a: six M-CYCLES, the write in the last. */
    Rom poke(int address, int v) {
        return code(0x3E, v, 0xEA, address, address >> 8);
    }

    /** ld a,(address); ldh (low),a. */
    Rom peek(int address, int low) {
        return code(0xFA, address, address >> 8, 0xE0, low);
    }

    Rom stay() {
        return code(0x18, 0xFE);
    }

    static int sumOf(int[] bytes) {
        int sum = 0;
        for (int i = 0x134; i <= 0x14C; i++) {
            sum -= bytes[i] + 1;
        }
        return sum & 255;
    }

    /** Brings all to the tape: zeros by end, the rest by feed. */
    void bringTo(HandheldPair x) {
        if (bytes.length > 0x14D) {
            bytes[0x14D] = sumOf(bytes);
        }
        x.end(0);
        for (int from = 0; from < bytes.length; from += 20) {
            int[] words = new int[5];
            boolean zero = true;
            for (int i = 0; i < 20 && from + i < bytes.length; i++) {
                words[i / 4] |= bytes[from + i] << 24 - 8 * (i % 4);
                zero &= bytes[from + i] == 0;
            }
            if (from + 20 > 65536) {
                x.end(bytes.length);
                for (int i = from; i < bytes.length; i++) {
                    x.patch(i, bytes[i], false);
                }
            } else if (!zero) {
                x.end(from);
                x.feed(words[0], words[1], words[2], words[3], words[4]);
            }
        }
        x.end(bytes.length);
    }

    int insertInto(HandheldPair x, int c) {
        bringTo(x);
        return x.insert(c);
    }

    /** The loop that copies n bytes from one place to another, n above 0. */
    Rom copyLoop(int from, int to, int n) {
        return code(0x21, to, to >> 8, 0x11, from, from >> 8, 0x01, n, n >> 8)
            .code(0x1A, 0x22, 0x13, 0x0B, 0x78, 0xB1, 0x20, 0xF8);
    }

    /** A new pair whose console 0 has this cartridge. */
    HandheldPair start() {
        HandheldPair x = new HandheldPair();
        insertInto(x, 0);
        return x;
    }
}
