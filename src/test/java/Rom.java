/** Builds a cartridge: its header, and a program that begins at $150. */
final class Rom {
    int[] bytes;
    private int at = 0x150;

    Rom() {
        this(0x400);
    }

    Rom(int length) {
        bytes = new int[length];
        put(0x100, 0xC3, 0x50, 0x01);
    }

    Rom kind(int kind, int ram) {
        bytes[0x147] = kind;
        bytes[0x149] = ram;
        return this;
    }

    Rom colour() {
        bytes[0x143] = 0x80;
        return this;
    }

    Rom put(int place, int... values) {
        for (int i = 0; i < values.length; i++) {
            bytes[place + i] = values[i] & 255;
        }
        return this;
    }

    Rom code(int... values) {
        put(at, values);
        at += values.length;
        return this;
    }

    Rom nops(int n) {
        at += n;
        return this;
    }

    Rom cutTo(int length) {
        bytes = java.util.Arrays.copyOf(bytes, length);
        return this;
    }

    int here() {
        return at;
    }

    /** ld a,v; ldh (low),a: five M-CYCLES, the write in the last. */
    Rom ldh(int low, int v) {
        return code(0x3E, v, 0xE0, low);
    }

    /** ld a,v; ld (address),a: six M-CYCLES, the write in the last. */
    Rom poke(int address, int v) {
        return code(0x3E, v, 0xEA, address, address >> 8);
    }

    /** ld a,(address); ldh (low),a. */
    Rom peek(int address, int low) {
        return code(0xFA, address, address >> 8, 0xE0, low);
    }

    Rom stay() {
        return code(0x18, 0xFE);
    }

    /** Spends just so many DOTS, a multiple of 4, with A, B, C and F; not FAST. */
    Rom spend(long dots) {
        long left = dots;
        while (left >= 1835016) {
            code(0x01, 0, 0, 0x0B, 0x78, 0xB1, 0x20, 0xFB);
            left -= 1835016;
        }
        int rounds = (int) ((left - 8) / 28);
        if (left >= 36) {
            code(0x01, rounds, rounds >> 8, 0x0B, 0x78, 0xB1, 0x20, 0xFB);
            left -= 8 + 28L * rounds;
        }
        return nops((int) left / 4);
    }

    static int sumOf(int[] bytes) {
        int sum = 0;
        for (int i = 0x134; i <= 0x14C; i++) {
            sum -= bytes[i] + 1;
        }
        return sum & 255;
    }

    /** Brings all to the tape: zeros by end, the rest by feed, in few calls; so many it were. */
    int bringTo(HandheldPair x) {
        if (bytes.length > 0x14D) {
            bytes[0x14D] = sumOf(bytes);
        }
        int length = x.end(0);
        int calls = 2;
        for (int from = nextUsed(0); from < bytes.length; from = nextUsed(length)) {
            int begin = Math.min(from, 65516);
            if (begin != length) {
                length = x.end(begin);
                calls++;
            }
            length = x.feed(word(length), word(length + 4), word(length + 8), word(length + 12), word(length + 16));
            calls++;
        }
        x.end(bytes.length);
        return calls;
    }

    private int nextUsed(int from) {
        int place = from;
        while (place < bytes.length && bytes[place] == 0) {
            place++;
        }
        return place;
    }

    private int word(int from) {
        int word = 0;
        for (int i = from; i < from + 4; i++) {
            word = word << 8 | (i < bytes.length ? bytes[i] : 0);
        }
        return word;
    }

    int insertInto(HandheldPair x, int c) {
        bringTo(x);
        return x.insert(c);
    }

    /** The loop that copies n bytes from one place to another, n above 0. */
    Rom copyLoop(int from, int to, int n) {
        return code(0x21, to, to >> 8, 0x11, from, from >> 8, 0x01, n, n >> 8)
            .code(0x1A, 0x22, 0x13, 0x0B, 0x78, 0xB1, 0x20, 0xF8);
    }

    /** A new pair whose console 0 has this cartridge. */
    HandheldPair start() {
        HandheldPair x = new HandheldPair();
        insertInto(x, 0);
        return x;
    }
}
