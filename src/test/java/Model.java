import java.util.NoSuchElementException;

/**
 * The document once more, as plainly as it can be written: every CLOCK and every DOT one by one,
 * nothing put off, nothing reckoned ahead. ModelTest holds HandheldPair against it.
 */
final class Model {
    private final int[] tape = new int[65536];
    private int tapeLength;
    private int refusal;
    private long goal;
    private long steps;
    private ModelConsole[] consoles = {new ModelConsole(), new ModelConsole()};
    private final ModelConsole[][] kept = new ModelConsole[2][];
    private final long[] keptGoals = new long[2];

    Model() {
        join();
    }

    private void join() {
        consoles[0].other = consoles[1];
        consoles[1].other = consoles[0];
    }

    int feed(int... words) {
        if (tapeLength + 20 > 65536) {
            throw new IllegalStateException();
        }
        for (int word : words) {
            for (int k = 3; k >= 0; k--) {
                tape[tapeLength++] = word >> 8 * k & 255;
            }
        }
        return tapeLength;
    }

    int end(int n) {
        if (n < 0 || n > 65536) {
            throw new IllegalArgumentException();
        }
        while (tapeLength < n) {
            tape[tapeLength++] = 0;
        }
        tapeLength = n;
        return n;
    }

    private int rightSum() {
        int sum = 0;
        for (int i = 0x134; i <= 0x14C; i++) {
            sum = (sum - tape[i] - 1) & 255;
        }
        return sum;
    }

    void patch(int at, int v, boolean sum) {
        if (at < 0 || at >= tapeLength) {
            throw new NoSuchElementException();
        }
        tape[at] = v & 255;
        if (sum && tapeLength >= 0x14E) {
            tape[0x14D] = rightSum();
        }
    }

    int insert(int c) {
        int length = tapeLength;
        tapeLength = 0;
        ModelConsole console = console(c);
        int reason = reason(length);
        if (reason != 0) {
            refusal = reason;
            console.isOff = true;
            throw new UnsupportedOperationException();
        }
        int banks = console.insert(java.util.Arrays.copyOf(tape, length));
        console.time = Math.max(console.time, goal);
        return banks;
    }

    private int reason(int length) {
        if (length < 0x150 || length > 65536) {
            return 1;
        }
        if (tape[0x14D] != rightSum()) {
            return 2;
        }
        int kind = tape[0x147];
        boolean known = kind <= 3 || kind == 5 || kind == 6 || kind >= 0x0F && kind <= 0x13 || kind >= 0x19 && kind <= 0x1E;
        if (!known) {
            return 3;
        }
        int ram = tape[0x149];
        return ram == 0 || ram == 2 || ram == 3 ? 0 : 4;
    }

    int refused() {
        return refusal;
    }

    long power(int c) {
        ModelConsole console = console(c);
        if (console.isOff) {
            throw new IllegalStateException();
        }
        console.powerOn();
        console.time = Math.max(console.time, goal);
        return console.time;
    }

    void keys(int c, int v) {
        console(c).press(v & 255);
    }

    int run(int n) {
        if (n < 1 || n > 80000) {
            throw new IllegalArgumentException();
        }
        goal += n;
        int done = 0;
        while (true) {
            ModelConsole next = null;
            for (ModelConsole console : consoles) {
                if (!console.isOff && console.time < goal && (next == null || console.time < next.time)) {
                    next = console;
                }
            }
            if (next == null) {
                break;
            }
            next.goOn();
            done++;
        }
        steps += done;
        return done;
    }

    int memory(int c, int address) {
        ModelConsole console = console(c);
        return console.isOff ? 0 : console.seen(address & 0xFFFF);
    }

    int about(int c, int what) {
        ModelConsole console = console(c);
        if (what < 0 || what > 25) {
            throw new IllegalArgumentException();
        }
        return console.isOff ? 0 : console.about(what);
    }

    long time(int c) {
        return console(c).time;
    }

    int pixel(int c, int x, int y) {
        ModelConsole console = console(c);
        if (x < 0 || x > 159 || y < 0 || y > 143) {
            throw new IndexOutOfBoundsException();
        }
        return console.isOff ? 0 : console.pixels[160 * y + x];
    }

    int picture(int c) {
        ModelConsole console = console(c);
        int sum = 0;
        for (int i = 0; i < 160 * 144 && !console.isOff; i++) {
            sum = sum * 31 + console.pixels[i];
        }
        return sum;
    }

    int saved(int c, int at) {
        ModelConsole console = console(c);
        if (console.isOff || at < 0 || at >= console.ram.length) {
            throw new IndexOutOfBoundsException();
        }
        return console.ram[at];
    }

    void keep(int k) {
        if (k != 0 && k != 1) {
            throw new IndexOutOfBoundsException();
        }
        kept[k] = new ModelConsole[] {consoles[0].copy(), consoles[1].copy()};
        keptGoals[k] = goal;
    }

    void take(int k) {
        if (k != 0 && k != 1) {
            throw new IndexOutOfBoundsException();
        }
        if (kept[k] == null) {
            throw new IllegalStateException();
        }
        consoles = new ModelConsole[] {kept[k][0].copy(), kept[k][1].copy()};
        join();
        goal = keptGoals[k];
    }

    int count(int what) {
        if (what == 0) {
            return tapeLength;
        }
        return what == 1 ? (int) (goal & 0x7FFFFFFF) : what == 2 ? (int) (steps & 0x7FFFFFFF) : -1;
    }

    private ModelConsole console(int c) {
        if (c != 0 && c != 1) {
            throw new NoSuchElementException();
        }
        return consoles[c];
    }
}
