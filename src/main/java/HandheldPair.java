import java.util.NoSuchElementException;

/** Two handheld consoles with a cable between them; see README.md for how it is used. */
public final class HandheldPair {
    private static final int CONSOLES = 2;
    private static final int STATES = 2;
    private static final int TAPE_ROOM = 65536;
    private static final int FEED_BYTES = 20;
    private static final int MOST_RUN = 80000;
    private static final int MOST_STEPS = 1000000;
    private static final int LAST_ABOUT = 25;
    private static final int LOW_31 = 0x7FFFFFFF;

    private static final int NONE_REFUSED = 0;
    private static final int BAD_LENGTH = 1;
    private static final int BAD_SUM = 2;
    private static final int BAD_KIND = 3;
    private static final int BAD_RAM = 4;

    private final int[] tape;
    private int tapeLength;
    private int refusal;
    private long goal;
    private int steps;
    private final Console[] consoles;
    private final Console[] kept;
    private final boolean[] isKept;
    private final long[] keptGoals;

    public HandheldPair() {
        tape = new int[TAPE_ROOM];
        consoles = new Console[CONSOLES];
        consoles[0] = new Console();
        consoles[1] = new Console();
        consoles[0].other = consoles[1];
        consoles[1].other = consoles[0];
        kept = new Console[CONSOLES * STATES];
        for (int i = 0; i < CONSOLES * STATES; i++) {
            kept[i] = new Console();
        }
        isKept = new boolean[STATES];
        keptGoals = new long[STATES];
        refusal = NONE_REFUSED;
    }

    public int feed(int a, int b, int c, int d, int e) throws IllegalStateException {
        if (tapeLength + FEED_BYTES > TAPE_ROOM) {
            throw new IllegalStateException("no room on the tape");
        }
        appendWord(a);
        appendWord(b);
        appendWord(c);
        appendWord(d);
        appendWord(e);
        return tapeLength;
    }

    private void appendWord(int word) {
        for (int shift = 24; shift >= 0; shift -= 8) {
            tape[tapeLength] = (word >>> shift) & 255;
            tapeLength++;
        }
    }

    public int end(int n) throws IllegalArgumentException {
        if (n < 0 || n > TAPE_ROOM) {
            throw new IllegalArgumentException("no such length of the tape");
        }
        for (int i = tapeLength; i < n; i++) {
            tape[i] = 0;
        }
        tapeLength = n;
        return n;
    }

    public void patch(int at, int v, boolean sum) throws NoSuchElementException {
        if (at < 0 || at >= tapeLength) {
            throw new NoSuchElementException("no such byte of the tape");
        }
        tape[at] = v & 255;
        if (sum && tapeLength > Cartridge.SUM_PLACE) {
            tape[Cartridge.SUM_PLACE] = Cartridge.sumOf(tape);
        }
    }

    public int insert(int c) throws NoSuchElementException, UnsupportedOperationException {
        int length = tapeLength;
        tapeLength = 0;
        Console console = consoleOf(c);
        int reason = reasonToRefuse(length);
        if (reason != NONE_REFUSED) {
            refusal = reason;
            console.on = false;
            throw new UnsupportedOperationException("the cartridge is refused");
        }
        console.cartridge.load(tape, length);
        console.startAt(goal);
        return console.cartridge.banks;
    }

    private int reasonToRefuse(int length) {
        if (length < Cartridge.SHORTEST || length > TAPE_ROOM) {
            return BAD_LENGTH;
        }
        if (tape[Cartridge.SUM_PLACE] != Cartridge.sumOf(tape)) {
            return BAD_SUM;
        }
        if (Cartridge.familyOf(tape[Cartridge.KIND_PLACE]) == Cartridge.NO_FAMILY) {
            return BAD_KIND;
        }
        if (Cartridge.ramBanksOf(tape[Cartridge.RAM_PLACE]) < 0) {
            return BAD_RAM;
        }
        return NONE_REFUSED;
    }

    public int refused() {
        return refusal;
    }

    public long power(int c) throws NoSuchElementException, IllegalStateException {
        Console console = consoleOf(c);
        if (!console.on) {
            throw new IllegalStateException("there is no cartridge");
        }
        console.startAt(goal);
        return console.time;
    }

    public void keys(int c, int v) throws NoSuchElementException {
        consoleOf(c).press(v & 255);
    }

    public int run(int n) throws IllegalArgumentException {
        if (n < 1 || n > MOST_RUN) {
            throw new IllegalArgumentException("not 1 to 80,000");
        }
        goal += n;
        int done = 0;
        Console next = nextToGo();
        while (next != null && done < MOST_STEPS) {
            next.goOn();
            done++;
            next = nextToGo();
        }
        steps = (steps + done) & LOW_31;
        return done;
    }

    private Console nextToGo() {
        Console first = consoles[0];
        Console second = consoles[1];
        boolean firstGoes = first.on && first.time < goal;
        boolean secondGoes = second.on && second.time < goal;
        if (firstGoes && secondGoes) {
            return second.time < first.time ? second : first;
        }
        if (firstGoes) {
            return first;
        }
        return secondGoes ? second : null;
    }

    public int memory(int c, int address) throws NoSuchElementException {
        Console console = consoleOf(c);
        return console.on ? console.read(address & 0xFFFF) : 0;
    }

    public int about(int c, int what) throws NoSuchElementException, IllegalArgumentException {
        Console console = consoleOf(c);
        if (what < 0 || what > LAST_ABOUT) {
            throw new IllegalArgumentException("nothing is told of that");
        }
        return console.on ? console.tell(what) : 0;
    }

    public long time(int c) throws NoSuchElementException {
        return consoleOf(c).time;
    }

    public int pixel(int c, int x, int y) throws NoSuchElementException, IndexOutOfBoundsException {
        Console console = consoleOf(c);
        if (x < 0 || x >= Screen.WIDTH || y < 0 || y >= Screen.HEIGHT) {
            throw new IndexOutOfBoundsException("outside of the screen");
        }
        return console.on ? console.screen.picture[y * Screen.WIDTH + x] : 0;
    }

    public int picture(int c) throws NoSuchElementException {
        Console console = consoleOf(c);
        return console.on ? console.screen.pictureSum() : 0;
    }

    public int saved(int c, int at) throws NoSuchElementException, IndexOutOfBoundsException {
        Console console = consoleOf(c);
        if (!console.on || at < 0 || at >= console.cartridge.ramSize) {
            throw new IndexOutOfBoundsException("no such byte of the cartridge");
        }
        return console.cartridge.ram[at];
    }

    public void keep(int k) throws IndexOutOfBoundsException {
        checkState(k);
        for (int c = 0; c < CONSOLES; c++) {
            kept[k * CONSOLES + c].copyFrom(consoles[c]);
        }
        keptGoals[k] = goal;
        isKept[k] = true;
    }

    public void take(int k) throws IndexOutOfBoundsException, IllegalStateException {
        checkState(k);
        if (!isKept[k]) {
            throw new IllegalStateException("nothing was kept there");
        }
        for (int c = 0; c < CONSOLES; c++) {
            consoles[c].copyFrom(kept[k * CONSOLES + c]);
        }
        goal = keptGoals[k];
    }

    private void checkState(int k) {
        if (k < 0 || k >= STATES) {
            throw new IndexOutOfBoundsException("no such state");
        }
    }

    public int count(int what) {
        switch (what) {
            case 0: return tapeLength;
            case 1: return (int) (goal & LOW_31);
            case 2: return steps;
            default: return -1;
        }
    }

    private Console consoleOf(int c) {
        if (c < 0 || c >= CONSOLES) {
            throw new NoSuchElementException("no such console");
        }
        return consoles[c];
    }

    /** One console: its parts, its memory, and the order in which a machine cycle moves them. */
    private static final class Console {
        static final int ASK_KEYS = 16;
        static final int MOST_CYCLES = 64;
        static final int MOST_BLOCKS = 128;
        static final int WORK_BANK = 4096;

        final Processor processor = new Processor();
        final Cartridge cartridge = new Cartridge();
        final Timer timer = new Timer();
        final Cable cable = new Cable();
        final Copy copy = new Copy();
        final Block block = new Block();
        final Screen screen = new Screen();
        final Sound sound = new Sound();
        final int[] work = new int[8 * WORK_BANK];
        final int[] high = new int[128];
        Console other;
        boolean on;
        boolean colour;
        boolean fast;
        boolean fastArmed;
        int keysDown;
        int chosenHalves;
        int workBank;
        long time;

        void copyFrom(Console from) {
            processor.copyFrom(from.processor);
            cartridge.copyFrom(from.cartridge);
            timer.copyFrom(from.timer);
            cable.copyFrom(from.cable);
            copy.copyFrom(from.copy);
            block.copyFrom(from.block);
            screen.copyFrom(from.screen);
            sound.copyFrom(from.sound);
            System.arraycopy(from.work, 0, work, 0, work.length);
            System.arraycopy(from.high, 0, high, 0, high.length);
            on = from.on;
            colour = from.colour;
            fast = from.fast;
            fastArmed = from.fastArmed;
            keysDown = from.keysDown;
            chosenHalves = from.chosenHalves;
            workBank = from.workBank;
            time = from.time;
        }

        void startAt(long goal) {
            on = true;
            colour = cartridge.isColour();
            fast = false;
            fastArmed = false;
            chosenHalves = 0;
            workBank = 0;
            time = Math.max(time, goal);
            clear(work);
            clear(high);
            processor.powerOn(colour);
            cartridge.powerOn();
            timer.powerOn();
            cable.powerOn(colour);
            copy.powerOn();
            block.powerOn();
            screen.powerOn(colour);
            sound.powerOn();
        }

        static void clear(int[] row) {
            for (int i = 0; i < row.length; i++) {
                row[i] = 0;
            }
        }

        /** A whole instruction, an interrupt, or one idle machine cycle of a processor that waits. */
        void goOn() {
            processor.begin(keyBits() != 15);
            int wish = processor.next();
            for (int i = 0; i < MOST_CYCLES && wish != Processor.DONE; i++) {
                if (wish == Processor.HOLD) {
                    stop();
                } else {
                    payOwedCycles();
                    cycle();
                    if (wish == Processor.READ) {
                        processor.absorb(read(processor.address));
                    } else if (wish == Processor.WRITE) {
                        write(processor.address, processor.data);
                    }
                    copyBlocksAtOnce();
                }
                wish = processor.next();
            }
            processor.finish();
        }

        void payOwedCycles() {
            int owed = block.owed;
            block.owed = 0;
            for (int i = 0; i < owed; i++) {
                cycle();
            }
        }

        void copyBlocksAtOnce() {
            for (int i = 0; i < MOST_BLOCKS && block.atOnce > 0; i++) {
                block.atOnce--;
                copyBlock();
                int idle = block.idleCycles(fast);
                for (int k = 0; k < idle; k++) {
                    cycle();
                }
            }
        }

        void cycle() {
            int soundBit = fast ? 0x2000 : 0x1000;
            for (int i = 0; i < 4; i++) {
                int events = timer.clock(soundBit);
                if (events != 0) {
                    heed(events);
                }
                if (cable.clock()) {
                    exchange();
                }
            }
            int place = copy.nextPlace();
            if (place >= 0) {
                screen.sprites[place] = readBelow(copy.source + place);
            }
            int dots = fast ? 2 : 4;
            int events = 0;
            for (int i = 0; i < dots; i++) {
                events |= screen.advance();
            }
            processor.asked |= events & 31;
            if ((events & Screen.MODE_0_BEGINS) != 0 && block.left > 0) {
                block.left--;
                copyBlock();
                block.owed += block.idleCycles(fast);
            }
            sound.advance(dots);
            cartridge.clock.advance(dots);
            time += dots;
        }

        void heed(int events) {
            processor.asked |= events & 31;
            if ((events & Timer.SOUND_FALLS) != 0) {
                sound.settle();
                sound.step();
            }
        }

        void exchange() {
            boolean joined = other != null && other.on && other.cable.waits();
            int mine = cable.sb >> 7;
            int theirs = joined ? other.cable.sb >> 7 : 1;
            processor.asked |= cable.shift(theirs);
            if (joined) {
                other.processor.asked |= other.cable.shift(mine);
            }
        }

        void copyBlock() {
            for (int i = 0; i < Block.SIZE; i++) {
                int address = block.source;
                boolean closed = address >= 0xE000 || (address & 0xE000) == 0x8000;
                screen.video[screen.videoBase() + block.target] = closed ? 255 : readBelow(address);
                block.stepOn();
            }
        }

        void stop() {
            heed(timer.clear(fast ? 0x2000 : 0x1000));
            if (colour && fastArmed) {
                fast = !fast;
                fastArmed = false;
            } else {
                processor.state = Processor.STOPPED;
            }
        }

        void press(int v) {
            int before = keyBits();
            keysDown = v;
            askForFallenKeys(before);
        }

        void chooseHalves(int v) {
            int before = keyBits();
            chosenHalves = v;
            askForFallenKeys(before);
        }

        void askForFallenKeys(int before) {
            if (on && (before & ~keyBits()) != 0) {
                processor.asked |= ASK_KEYS;
            }
        }

        int keyBits() {
            int down = 0;
            if ((chosenHalves & 16) == 0) {
                down |= keysDown & 15;
            }
            if ((chosenHalves & 32) == 0) {
                down |= keysDown >> 4;
            }
            return 15 & ~down;
        }

        /** What the processor reads, with all that blocks it. */
        int read(int address) {
            if (address < 0xFF00 && (copy.left > 0 || screen.blocks(address))) {
                return 255;
            }
            return address < 0xE000 ? readBelow(address) : readAbove(address);
        }

        int readBelow(int address) {
            switch (address >> 12) {
                case 8: case 9: return screen.video[screen.videoBase() + (address & 0x1FFF)];
                case 10: case 11: return cartridge.readRam(address);
                case 12: case 13: return work[workPlace(address)];
                default: return cartridge.readImage(address);
            }
        }

        int readAbove(int address) {
            if (address < 0xFE00) {
                return work[workPlace(address)];
            }
            if (address < 0xFF00) {
                return address < 0xFEA0 ? screen.sprites[address - 0xFE00] : 0;
            }
            if (address >= 0xFF80) {
                return address == 0xFFFF ? processor.allowed : high[address - 0xFF80];
            }
            return readRegister(address - 0xFF00);
        }

        int workPlace(int address) {
            if ((address & 0x1000) == 0) {
                return address & 0xFFF;
            }
            int bank = colour && workBank > 1 ? workBank : 1;
            return bank * WORK_BANK + (address & 0xFFF);
        }

        int readRegister(int low) {
            if (low >= 0x10 && low < 0x40) {
                return sound.read(low);
            }
            if (low >= 0x40) {
                if (low < 0x4C) {
                    return low == 0x46 ? copy.written : screen.readRegister(low - 0x40);
                }
                return colour ? readColourRegister(low) : 255;
            }
            switch (low) {
                case 0x00: return 0xC0 | chosenHalves | keyBits();
                case 0x01: return cable.sb;
                case 0x02: return cable.sc | (colour ? 0x7C : 0x7E);
                case 0x04: return timer.divider >> 8;
                case 0x05: return timer.tima;
                case 0x06: return timer.tma;
                case 0x07: return timer.tac | 0xF8;
                case 0x0F: return processor.asked | 0xE0;
                default: return 255;
            }
        }

        int readColourRegister(int low) {
            switch (low) {
                case 0x4D: return 0x7E | (fast ? 0x80 : 0) | (fastArmed ? 1 : 0);
                case 0x4F: return 0xFE | screen.videoBank;
                case 0x55: return block.told();
                case 0x68: case 0x6A: return screen.colourIndexes[(low >> 1) & 1] | 0x40;
                case 0x69: case 0x6B: return screen.readColour((low >> 1) & 1);
                case 0x70: return 0xF8 | workBank;
                default: return 255;
            }
        }

        /** What the processor writes, if nothing blocks it. */
        void write(int address, int v) {
            if (address >= 0xFF80) {
                if (address == 0xFFFF) {
                    processor.allowed = v;
                } else {
                    high[address - 0xFF80] = v;
                }
            } else if (address >= 0xFF00) {
                writeRegister(address - 0xFF00, v);
                processor.asked |= screen.watch();
            } else if (copy.left <= 0 && !screen.blocks(address)) {
                writeMemory(address, v);
            }
        }

        void writeMemory(int address, int v) {
            switch (address >> 12) {
                case 8: case 9:
                    screen.video[screen.videoBase() + (address & 0x1FFF)] = v;
                    break;
                case 10: case 11:
                    cartridge.writeRam(address, v);
                    break;
                case 12: case 13: case 14:
                    work[workPlace(address)] = v;
                    break;
                case 15:
                    if (address < 0xFE00) {
                        work[workPlace(address)] = v;
                    } else if (address < 0xFEA0) {
                        screen.sprites[address - 0xFE00] = v;
                    }
                    break;
                default:
                    cartridge.writeRegister(address, v);
                    break;
            }
        }

        void writeRegister(int low, int v) {
            if (low >= 0x10 && low < 0x40) {
                sound.write(low, v);
            } else if (low == 0x46) {
                copy.begin(v);
            } else if (low >= 0x40 && low < 0x4C) {
                screen.writeRegister(low - 0x40, v);
            } else if (low >= 0x4C) {
                if (colour) {
                    writeColourRegister(low, v);
                }
            } else if (low == 0x04) {
                heed(timer.clear(fast ? 0x2000 : 0x1000));
            } else {
                writeFirstRegister(low, v);
            }
        }

        void writeFirstRegister(int low, int v) {
            switch (low) {
                case 0x00:
                    chooseHalves(v & 0x30);
                    break;
                case 0x01:
                    cable.sb = v;
                    break;
                case 0x02:
                    cable.begin(v);
                    break;
                case 0x05:
                    timer.writeTima(v);
                    break;
                case 0x06:
                    timer.tma = v;
                    break;
                case 0x07:
                    timer.writeTac(v & 7);
                    break;
                case 0x0F:
                    processor.asked = v & 31;
                    break;
                default:
                    break;
            }
        }

        void writeColourRegister(int low, int v) {
            switch (low) {
                case 0x4D:
                    fastArmed = (v & 1) != 0;
                    break;
                case 0x4F:
                    screen.videoBank = v & 1;
                    break;
                case 0x51: case 0x52: case 0x53: case 0x54:
                    block.places[low - 0x51] = v;
                    break;
                case 0x55:
                    block.begin(v);
                    break;
                case 0x68: case 0x6A:
                    screen.colourIndexes[(low >> 1) & 1] = v & 0xBF;
                    break;
                case 0x69: case 0x6B:
                    screen.writeColour((low >> 1) & 1, v);
                    break;
                case 0x70:
                    workBank = v & 7;
                    break;
                default:
                    break;
            }
        }

        int tell(int what) {
            if (what <= 11) {
                return processor.tell(what);
            }
            switch (what) {
                case 12: return timer.divider;
                case 13: return fast ? 1 : 0;
                case 14: return screen.dot;
                case 15: return screen.window;
                case 16: case 17: case 18: case 19: return sound.levelNow(what - 16);
                case 20: return sound.heard;
                case 21: return cartridge.low;
                case 22: return cartridge.high;
                case 23: return copy.toCome();
                case 24: return block.left;
                default: return cable.bits;
            }
        }
    }

    /**
     * The processor. Each instruction is a short text, one character for each part of it; the
     * console makes the machine cycles that the parts wish, so that no call goes deep.
     */
    private static final class Processor {
        static final int INSIDE = 0;
        static final int IDLE = 1;
        static final int READ = 2;
        static final int WRITE = 3;
        static final int HOLD = 4;
        static final int DONE = 5;

        static final int RUNS = 0;
        static final int HALTED = 1;
        static final int STOPPED = 2;
        static final int STUCK = 3;

        static final int C = 1;
        static final int HL = 2;
        static final int SP = 3;
        static final int F = 6;
        static final int A = 7;
        static final int IN_MEMORY = 6;

        static final int ZERO = 128;
        static final int LESS = 64;
        static final int HALF = 32;
        static final int CARRY = 16;

        static final String FETCH = "o";
        static final String WAIT = "+";
        static final String INTERRUPT = "++PHkLi+";
        static final int MOST_PARTS = 16;

        /** B C D E H L F A: F stands where an instruction means (HL). */
        final int[] r = new int[8];
        int sp;
        int pc;
        int state;
        boolean ime;
        int imeIn;
        boolean again;
        int asked;
        int allowed;
        String program = WAIT;
        int place;
        int part;
        int opcode;
        int word;
        int data;
        int address;
        int pushed;
        int vector;

        void powerOn(boolean colour) {
            setPair(0, 0x13);
            setPair(1, 0xD8);
            setPair(HL, 0x14D);
            r[A] = colour ? 0x11 : 1;
            r[F] = 0xB0;
            sp = 0xFFFE;
            pc = 0x100;
            state = RUNS;
            ime = false;
            imeIn = 0;
            again = false;
            asked = 1;
            allowed = 0;
        }

        void copyFrom(Processor from) {
            System.arraycopy(from.r, 0, r, 0, r.length);
            sp = from.sp;
            pc = from.pc;
            state = from.state;
            ime = from.ime;
            imeIn = from.imeIn;
            again = from.again;
            asked = from.asked;
            allowed = from.allowed;
        }

        int tell(int what) {
            switch (what) {
                case 0: return r[A];
                case 1: return r[F];
                case 8: return sp;
                case 9: return pc;
                case 10: return ime ? 1 : 0;
                case 11: return state;
                default: return r[(what - 2) & 7];
            }
        }

        void begin(boolean keyIsDown) {
            boolean due = (asked & allowed & 31) != 0;
            if ((state == HALTED && due) || (state == STOPPED && keyIsDown)) {
                state = RUNS;
            }
            place = 0;
            if (state != RUNS) {
                program = WAIT;
            } else if (ime && due) {
                ime = false;
                program = INTERRUPT;
            } else {
                program = FETCH;
            }
        }

        void finish() {
            if (imeIn > 0) {
                imeIn--;
                if (imeIn == 0) {
                    ime = true;
                }
            }
        }

        /** The parts that need no machine cycle are done; the wish of the first that needs one. */
        int next() {
            for (int i = 0; i < MOST_PARTS && place < program.length(); i++) {
                part = program.charAt(place);
                place++;
                int wish = wishOfPart();
                if (wish != INSIDE) {
                    return wish;
                }
            }
            return DONE;
        }

        int wishOfPart() {
            switch (part) {
                case '+':
                    return IDLE;
                case '!':
                    act();
                    return INSIDE;
                case 'o': case 'n': case 'N':
                    address = pc;
                    movePc();
                    return READ;
                case 'm':
                    address = pair(HL);
                    return READ;
                case 'M':
                    address = pair(HL);
                    return WRITE;
                case 'R':
                    return READ;
                case 'W':
                    data = r[A];
                    return WRITE;
                case 's':
                    data = sp & 255;
                    return WRITE;
                case 'S':
                    address = (address + 1) & 0xFFFF;
                    data = sp >> 8;
                    return WRITE;
                case 'l': case 'g':
                    address = sp;
                    sp = (sp + 1) & 0xFFFF;
                    return READ;
                case 'H': case 'L':
                    sp = (sp - 1) & 0xFFFF;
                    address = sp;
                    data = part == 'H' ? pushed >> 8 : pushed & 255;
                    return WRITE;
                default:
                    return workInside();
            }
        }

        void movePc() {
            if (again && part == 'o') {
                again = false;
            } else {
                pc = (pc + 1) & 0xFFFF;
            }
        }

        void absorb(int v) {
            switch (part) {
                case 'o':
                    opcode = v;
                    program = programOf(v >> 6, (v >> 3) & 7, v & 7);
                    place = 0;
                    break;
                case 'R':
                    r[A] = v;
                    break;
                case 'n': case 'l':
                    data = v;
                    word = v;
                    break;
                case 'N': case 'g':
                    word |= v << 8;
                    break;
                default:
                    data = v;
                    break;
            }
        }

        int workInside() {
            switch (part) {
                case '#': actOnBits(); break;
                case '?': endUnless(condition()); break;
                case 'J': pc = word; break;
                case 'j': pc = (pc + (byte) data) & 0xFFFF; break;
                case 'r': pc = opcode & 0x38; break;
                case 'x': address = pair(Math.min((opcode >> 4) & 3, HL)); break;
                case 'h': address = 0xFF00 | data; break;
                case 'c': address = 0xFF00 | r[C]; break;
                case 'w': address = word; break;
                case 'P': pushed = pc; break;
                case 'Q': pushed = stackedPair((opcode >> 4) & 3); break;
                case 'b': beginBits(); break;
                case 'k': chooseVector(); break;
                case 'i': takeVector(); break;
                case 'K': state = STUCK; break;
                case 'z':
                    pc = (pc + 1) & 0xFFFF;
                    return HOLD;
                default: break;
            }
            return INSIDE;
        }

        void endUnless(boolean holds) {
            if (!holds) {
                place = program.length();
            }
        }

        boolean condition() {
            int flag = (opcode & 16) == 0 ? ZERO : CARRY;
            boolean wanted = (opcode & 8) != 0;
            return ((r[F] & flag) != 0) == wanted;
        }

        void beginBits() {
            opcode = data;
            place = 0;
            if ((opcode & 7) != IN_MEMORY) {
                program = "#";
            } else {
                program = (opcode >> 6) == 1 ? "m#" : "m#M";
            }
        }

        void chooseVector() {
            int due = asked & allowed & 31;
            vector = due == 0 ? -1 : Integer.bitCount((due & -due) - 1);
        }

        void takeVector() {
            if (vector < 0) {
                pc = 0;
            } else {
                asked &= ~(1 << vector);
                pc = 0x40 + 8 * vector;
            }
        }

        static String programOf(int x, int y, int z) {
            switch (x) {
                case 0: return programOfFirst(y, z);
                case 1:
                    if (y == IN_MEMORY && z == IN_MEMORY) {
                        return "!";
                    }
                    if (y == IN_MEMORY) {
                        return "!M";
                    }
                    return z == IN_MEMORY ? "m!" : "!";
                case 2: return z == IN_MEMORY ? "m!" : "!";
                default: return programOfLast(y, z);
            }
        }

        static String programOfFirst(int y, int z) {
            switch (z) {
                case 0:
                    switch (y) {
                        case 0: return "";
                        case 1: return "nNwsS";
                        case 2: return "z";
                        case 3: return "n+j";
                        default: return "n?+j";
                    }
                case 1: return (y & 1) == 0 ? "nN!" : "+!";
                case 2: return (y & 1) == 0 ? "xW!" : "xR!";
                case 3: return "+!";
                case 4: case 5: return y == IN_MEMORY ? "m!M" : "!";
                case 6: return y == IN_MEMORY ? "nM" : "n!";
                default: return "!";
            }
        }

        static String programOfLast(int y, int z) {
            switch (z) {
                case 0:
                    switch (y) {
                        case 4: return "nhW";
                        case 5: return "n++!";
                        case 6: return "nhR";
                        case 7: return "n+!";
                        default: return "+?lg+J";
                    }
                case 1: return programOfPops(y);
                case 2:
                    switch (y) {
                        case 4: return "cW";
                        case 5: return "nNwW";
                        case 6: return "cR";
                        case 7: return "nNwR";
                        default: return "nN?+J";
                    }
                case 3:
                    switch (y) {
                        case 0: return "nN+J";
                        case 1: return "nb";
                        case 6: case 7: return "!";
                        default: return "K";
                    }
                case 4: return y < 4 ? "nN?+PHLJ" : "K";
                case 5:
                    if ((y & 1) == 0) {
                        return "+QHL";
                    }
                    return y == 1 ? "nN+PHLJ" : "K";
                case 6: return "n!";
                default: return "+PHLr";
            }
        }

        static String programOfPops(int y) {
            switch (y) {
                case 1: return "lg+J";
                case 3: return "lg+J!";
                case 5: return "!";
                case 7: return "+!";
                default: return "lg!";
            }
        }

        void act() {
            int y = (opcode >> 3) & 7;
            int z = opcode & 7;
            switch (opcode >> 6) {
                case 0: actFirst(y, z); break;
                case 1:
                    if (opcode == 0x76) {
                        halt();
                    } else {
                        put(y, operand(z));
                    }
                    break;
                case 2: reckon(y, operand(z)); break;
                default: actLast(y, z); break;
            }
        }

        void halt() {
            if (!ime && (asked & allowed & 31) != 0) {
                again = true;
            } else {
                state = HALTED;
            }
        }

        void actFirst(int y, int z) {
            int p = y >> 1;
            int sign = (y & 1) == 0 ? 1 : -1;
            switch (z) {
                case 1:
                    if (sign > 0) {
                        setPair(p, word);
                    } else {
                        addToHl(pair(p));
                    }
                    break;
                case 2:
                    if (p >= 2) {
                        setPair(HL, pair(HL) + (p == 2 ? 1 : -1));
                    }
                    break;
                case 3: setPair(p, pair(p) + sign); break;
                case 4: put(y, oneMore(operand(y))); break;
                case 5: put(y, oneLess(operand(y))); break;
                case 6: put(y, data); break;
                default: actOnA(y); break;
            }
        }

        void actLast(int y, int z) {
            switch (z) {
                case 0: setPair(y == 5 ? SP : HL, spPlusData()); break;
                case 1:
                    if ((y & 1) == 0) {
                        setStackedPair(y >> 1, word);
                    } else if (y == 3) {
                        ime = true;
                    } else if (y == 5) {
                        pc = pair(HL);
                    } else {
                        sp = pair(HL);
                    }
                    break;
                case 3: switchInterrupts(y == 7); break;
                default: reckon(y, data); break;
            }
        }

        void switchInterrupts(boolean wanted) {
            if (!wanted) {
                ime = false;
                imeIn = 0;
            } else if (!ime && imeIn == 0) {
                // Two ends of instructions: that of this one, and that of the next.
                imeIn = 2;
            }
        }

        int operand(int k) {
            return k == IN_MEMORY ? data : r[k];
        }

        void put(int k, int v) {
            if (k == IN_MEMORY) {
                data = v;
            } else {
                r[k] = v;
            }
        }

        int pair(int p) {
            return p == SP ? sp : r[2 * p] << 8 | r[2 * p + 1];
        }

        void setPair(int p, int v) {
            if (p == SP) {
                sp = v & 0xFFFF;
            } else {
                r[2 * p] = (v >> 8) & 255;
                r[2 * p + 1] = v & 255;
            }
        }

        int stackedPair(int p) {
            return p == 3 ? r[A] << 8 | r[F] : pair(p);
        }

        void setStackedPair(int p, int v) {
            if (p == 3) {
                r[A] = v >> 8;
                r[F] = v & 0xF0;
            } else {
                setPair(p, v);
            }
        }

        void addToHl(int v) {
            int hl = pair(HL);
            int f = r[F] & ZERO;
            if ((hl & 0xFFF) + (v & 0xFFF) > 0xFFF) {
                f |= HALF;
            }
            if (hl + v > 0xFFFF) {
                f |= CARRY;
            }
            r[F] = f;
            setPair(HL, hl + v);
        }

        int spPlusData() {
            int f = (sp & 15) + (data & 15) > 15 ? HALF : 0;
            if ((sp & 255) + data > 255) {
                f |= CARRY;
            }
            r[F] = f;
            return (sp + (byte) data) & 0xFFFF;
        }

        int oneMore(int v) {
            int sum = (v + 1) & 255;
            r[F] = (r[F] & CARRY) | (sum == 0 ? ZERO : 0) | ((sum & 15) == 0 ? HALF : 0);
            return sum;
        }

        int oneLess(int v) {
            int rest = (v - 1) & 255;
            r[F] = (r[F] & CARRY) | LESS | (rest == 0 ? ZERO : 0) | ((rest & 15) == 15 ? HALF : 0);
            return rest;
        }

        void actOnA(int y) {
            switch (y) {
                case 4: makeDecimal(); break;
                case 5:
                    r[A] = r[A] ^ 255;
                    r[F] |= LESS | HALF;
                    break;
                case 6: r[F] = (r[F] & ZERO) | CARRY; break;
                case 7: r[F] = (r[F] & (ZERO | CARRY)) ^ CARRY; break;
                default:
                    r[A] = turned(y, r[A]);
                    r[F] &= CARRY;
                    break;
            }
        }

        void makeDecimal() {
            int a = r[A];
            int f = r[F];
            int kept = f & (LESS | CARRY);
            int change = 0;
            if ((f & LESS) != 0) {
                change -= (f & CARRY) != 0 ? 0x60 : 0;
                change -= (f & HALF) != 0 ? 6 : 0;
            } else {
                if ((f & CARRY) != 0 || a > 0x99) {
                    change += 0x60;
                    kept |= CARRY;
                }
                change += (f & HALF) != 0 || (a & 15) > 9 ? 6 : 0;
            }
            r[A] = (a + change) & 255;
            r[F] = kept | (r[A] == 0 ? ZERO : 0);
        }

        void reckon(int y, int v) {
            switch (y) {
                case 0: r[A] = sum(v, 0); break;
                case 1: r[A] = sum(v, (r[F] >> 4) & 1); break;
                case 2: r[A] = rest(v, 0); break;
                case 3: r[A] = rest(v, (r[F] >> 4) & 1); break;
                case 4: setLogical(r[A] & v, HALF); break;
                case 5: setLogical(r[A] ^ v, 0); break;
                case 6: setLogical(r[A] | v, 0); break;
                default: rest(v, 0); break;
            }
        }

        void setLogical(int v, int flags) {
            r[A] = v;
            r[F] = flags | (v == 0 ? ZERO : 0);
        }

        int sum(int v, int carry) {
            int a = r[A];
            int whole = a + v + carry;
            int f = (whole & 255) == 0 ? ZERO : 0;
            f |= (a & 15) + (v & 15) + carry > 15 ? HALF : 0;
            f |= whole > 255 ? CARRY : 0;
            r[F] = f;
            return whole & 255;
        }

        int rest(int v, int borrow) {
            int a = r[A];
            int whole = a - v - borrow;
            int f = LESS | ((whole & 255) == 0 ? ZERO : 0);
            f |= (a & 15) - (v & 15) - borrow < 0 ? HALF : 0;
            f |= whole < 0 ? CARRY : 0;
            r[F] = f;
            return whole & 255;
        }

        void actOnBits() {
            int y = (opcode >> 3) & 7;
            int k = opcode & 7;
            int v = operand(k);
            switch (opcode >> 6) {
                case 0: put(k, turned(y, v)); break;
                case 1:
                    r[F] = (r[F] & CARRY) | HALF | ((v >> y & 1) == 0 ? ZERO : 0);
                    break;
                case 2: put(k, v & ~(1 << y)); break;
                default: put(k, v | 1 << y); break;
            }
        }

        int turned(int y, int v) {
            int carry = (r[F] >> 4) & 1;
            int out = (y & 1) == 0 ? v >> 7 : v & 1;
            int result;
            switch (y) {
                case 0: result = v << 1 | out; break;
                case 1: result = v >> 1 | out << 7; break;
                case 2: result = v << 1 | carry; break;
                case 3: result = v >> 1 | carry << 7; break;
                case 4: result = v << 1; break;
                case 5: result = v >> 1 | v & 128; break;
                case 6:
                    result = v << 4 | v >> 4;
                    out = 0;
                    break;
                default: result = v >> 1; break;
            }
            result &= 255;
            r[F] = (result == 0 ? ZERO : 0) | (out != 0 ? CARRY : 0);
            return result;
        }
    }

    /** The image, the memory of the cartridge, and the registers that switch their banks. */
    private static final class Cartridge {
        static final int SHORTEST = 0x150;
        static final int SUM_FIRST = 0x134;
        static final int COLOUR_PLACE = 0x143;
        static final int KIND_PLACE = 0x147;
        static final int RAM_PLACE = 0x149;
        static final int SUM_PLACE = 0x14D;
        static final int BANK = 16384;
        static final int RAM_BANK = 8192;
        static final int SMALL_RAM = 512;
        static final int NO_FAMILY = -1;
        static final int PLAIN = 0;
        static final int M1 = 1;
        static final int M2 = 2;
        static final int M3 = 3;
        static final int M5 = 5;

        final int[] image = new int[4 * BANK];
        final int[] ram = new int[4 * RAM_BANK];
        final CartridgeClock clock = new CartridgeClock();
        int family;
        int banks;
        int ramSize;
        int ramBanks;
        boolean ramOn;
        int low;
        int high;
        int mode;
        boolean latchReady;

        static int sumOf(int[] bytes) {
            int sum = 0;
            for (int i = SUM_FIRST; i < SUM_PLACE && i < bytes.length; i++) {
                sum = sum - bytes[i] - 1;
            }
            return sum & 255;
        }

        static int familyOf(int kind) {
            if (kind == 0) {
                return PLAIN;
            }
            if (kind >= 1 && kind <= 3) {
                return M1;
            }
            if (kind == 5 || kind == 6) {
                return M2;
            }
            if (kind >= 0x0F && kind <= 0x13) {
                return M3;
            }
            return kind >= 0x19 && kind <= 0x1E ? M5 : NO_FAMILY;
        }

        static int ramBanksOf(int code) {
            switch (code) {
                case 0: return 0;
                case 2: return 1;
                case 3: return 4;
                default: return -1;
            }
        }

        void load(int[] bytes, int length) {
            for (int i = 0; i < image.length; i++) {
                image[i] = i < length && i < bytes.length ? bytes[i] : 255;
            }
            banks = length > 2 * BANK ? 4 : 2;
            family = familyOf(image[KIND_PLACE]);
            ramBanks = family == PLAIN || family == M2 ? 0 : Math.max(ramBanksOf(image[RAM_PLACE]), 0);
            ramSize = family == M2 ? SMALL_RAM : ramBanks * RAM_BANK;
            Console.clear(ram);
            clock.clear();
        }

        void powerOn() {
            ramOn = false;
            low = 1;
            high = 0;
            mode = 0;
            latchReady = false;
            clock.beginDots();
        }

        void copyFrom(Cartridge from) {
            System.arraycopy(from.image, 0, image, 0, image.length);
            System.arraycopy(from.ram, 0, ram, 0, ram.length);
            clock.copyFrom(from.clock);
            family = from.family;
            banks = from.banks;
            ramSize = from.ramSize;
            ramBanks = from.ramBanks;
            ramOn = from.ramOn;
            low = from.low;
            high = from.high;
            mode = from.mode;
            latchReady = from.latchReady;
        }

        boolean isColour() {
            return (image[COLOUR_PLACE] & 128) != 0;
        }

        int readImage(int address) {
            int bank;
            if (address < 0x4000) {
                bank = family == M1 && mode == 1 ? 32 * high : 0;
            } else if (family == PLAIN) {
                bank = 1;
            } else {
                bank = family == M1 ? low + 32 * high : low;
            }
            return image[(bank & (banks - 1) & 3) * BANK + (address & 0x3FFF)];
        }

        int readRam(int address) {
            if (family == M3 && clockChosen()) {
                return clock.latched[high - 8];
            }
            int place = ramPlace(address);
            if (place < 0) {
                return 255;
            }
            return family == M2 ? ram[place] | 0xF0 : ram[place];
        }

        boolean clockChosen() {
            return ramOn && high >= 8 && high <= 12;
        }

        /** The place in the memory that address means now, -1 if there is none. */
        int ramPlace(int address) {
            if (!ramOn || ramSize == 0) {
                return -1;
            }
            int bank = high;
            switch (family) {
                case M1:
                    bank = mode == 1 ? high : 0;
                    break;
                case M2: return address & 511;
                case M3:
                    if (high > 3) {
                        return -1;
                    }
                    break;
                default: break;
            }
            return (bank & (ramBanks - 1) & 3) * RAM_BANK + (address & 0x1FFF);
        }

        void writeRam(int address, int v) {
            if (family == M3 && clockChosen()) {
                clock.set(high - 8, v);
                return;
            }
            int place = ramPlace(address);
            if (place >= 0) {
                ram[place] = family == M2 ? v & 15 : v;
            }
        }

        void writeRegister(int address, int v) {
            switch (family) {
                case M1: writeM1(address, v); break;
                case M2: writeM2(address, v); break;
                case M3: writeM3(address, v); break;
                case M5: writeM5(address, v); break;
                default: break;
            }
        }

        void writeM1(int address, int v) {
            if (address < 0x2000) {
                ramOn = (v & 15) == 10;
            } else if (address < 0x4000) {
                low = Math.max(v & 31, 1);
            } else if (address < 0x6000) {
                high = v & 3;
            } else {
                mode = v & 1;
            }
        }

        void writeM2(int address, int v) {
            if (address >= 0x4000) {
                return;
            }
            if ((address & 0x100) == 0) {
                ramOn = (v & 15) == 10;
            } else {
                low = Math.max(v & 15, 1);
            }
        }

        void writeM3(int address, int v) {
            if (address < 0x2000) {
                ramOn = (v & 15) == 10;
            } else if (address < 0x4000) {
                low = Math.max(v & 127, 1);
            } else if (address < 0x6000) {
                high = v & 15;
            } else {
                if (v == 1 && latchReady) {
                    clock.latch();
                }
                latchReady = v == 0;
            }
        }

        void writeM5(int address, int v) {
            if (address < 0x2000) {
                ramOn = v == 10;
            } else if (address < 0x3000) {
                low = (low & 0x100) | v;
            } else if (address < 0x4000) {
                low = (low & 255) | (v & 1) << 8;
            } else if (address < 0x6000) {
                high = v & 15;
            }
        }
    }

    /** The clock in the cartridge: seconds, minutes, hours, days, and the bits beside them. */
    private static final class CartridgeClock {
        static final int DOTS = 4194304;
        static final int SECONDS = 0;
        static final int MINUTES = 1;
        static final int HOURS = 2;
        static final int DAYS = 3;
        static final int MORE = 4;
        static final int STOPPED = 64;
        static final int RAN_OVER = 128;
        static final int[] MASKS = {63, 63, 31, 255, 0xC1};

        final int[] now = new int[5];
        final int[] latched = new int[5];
        int dotsLeft;

        void clear() {
            Console.clear(now);
            Console.clear(latched);
        }

        void beginDots() {
            dotsLeft = DOTS;
        }

        void copyFrom(CartridgeClock from) {
            System.arraycopy(from.now, 0, now, 0, now.length);
            System.arraycopy(from.latched, 0, latched, 0, latched.length);
            dotsLeft = from.dotsLeft;
        }

        void latch() {
            System.arraycopy(now, 0, latched, 0, now.length);
        }

        void set(int which, int v) {
            now[which] = v & MASKS[which];
            latched[which] = v & MASKS[which];
            if (which == SECONDS) {
                dotsLeft = DOTS;
            }
        }

        void advance(int dots) {
            dotsLeft -= dots;
            if (dotsLeft <= 0) {
                dotsLeft += DOTS;
                if ((now[MORE] & STOPPED) == 0) {
                    addSecond();
                }
            }
        }

        void addSecond() {
            if (turnsOver(SECONDS, 60) && turnsOver(MINUTES, 60) && turnsOver(HOURS, 24)) {
                addDay();
            }
        }

        boolean turnsOver(int which, int limit) {
            now[which] = (now[which] + 1) & MASKS[which];
            if (now[which] != limit) {
                return false;
            }
            now[which] = 0;
            return true;
        }

        void addDay() {
            int day = (now[MORE] & 1) << 8 | now[DAYS];
            day = (day + 1) & 511;
            now[DAYS] = day & 255;
            now[MORE] = (now[MORE] & ~1) | day >> 8;
            if (day == 0) {
                now[MORE] |= RAN_OVER;
            }
        }
    }

    /** The divider and the timer that counts whenever its line falls. */
    private static final class Timer {
        static final int ASK_TIMER = 4;
        static final int SOUND_FALLS = 256;
        static final int[] LINE_BITS = {512, 8, 32, 128};

        int divider;
        int tima;
        int tma;
        int tac;
        int wait;

        void powerOn() {
            divider = 0;
            tima = 0;
            tma = 0;
            tac = 0;
            wait = 0;
        }

        void copyFrom(Timer from) {
            divider = from.divider;
            tima = from.tima;
            tma = from.tma;
            tac = from.tac;
            wait = from.wait;
        }

        int clock(int soundBit) {
            int events = 0;
            if (wait > 0) {
                wait--;
                if (wait == 0) {
                    tima = tma;
                    events = ASK_TIMER;
                }
            }
            int before = divider;
            divider = (divider + 1) & 0xFFFF;
            // No watched bit lies below bit 3, so nothing falls between multiples of 16.
            return (divider & 15) != 0 ? events : events | eventsOfFall(before, soundBit);
        }

        int clear(int soundBit) {
            int before = divider;
            divider = 0;
            return eventsOfFall(before, soundBit);
        }

        int eventsOfFall(int before, int soundBit) {
            int fallen = before & ~divider;
            if ((fallen & lineBit()) != 0) {
                addOne();
            }
            return (fallen & soundBit) != 0 ? SOUND_FALLS : 0;
        }

        int lineBit() {
            return (tac & 4) != 0 ? LINE_BITS[tac & 3] : 0;
        }

        void addOne() {
            tima++;
            if (tima > 255) {
                tima = 0;
                wait = 4;
            }
        }

        void writeTima(int v) {
            tima = v;
            wait = 0;
        }

        void writeTac(int v) {
            boolean before = (divider & lineBit()) != 0;
            tac = v;
            if (before && (divider & lineBit()) == 0) {
                addOne();
            }
        }
    }

    /** One end of the cable. */
    private static final class Cable {
        static final int ASK_CABLE = 8;
        static final int SLOW = 512;
        static final int QUICK = 16;

        int sb;
        int sc;
        int bits;
        int rate;
        boolean colour;

        void powerOn(boolean inColour) {
            sb = 0;
            sc = 0;
            bits = 0;
            rate = 0;
            colour = inColour;
        }

        void copyFrom(Cable from) {
            sb = from.sb;
            sc = from.sc;
            bits = from.bits;
            rate = from.rate;
            colour = from.colour;
        }

        void begin(int v) {
            sc = v & (colour ? 0x83 : 0x81);
            bits = 8;
            rate = fullRate();
        }

        int fullRate() {
            return colour && (sc & 2) != 0 ? QUICK : SLOW;
        }

        boolean waits() {
            return (sc & 0x81) == 0x80;
        }

        /** Whether a bit goes both ways now. */
        boolean clock() {
            if ((sc & 0x81) != 0x81) {
                return false;
            }
            rate--;
            if (rate > 0) {
                return false;
            }
            rate = fullRate();
            return true;
        }

        int shift(int bit) {
            sb = (sb << 1 | bit) & 255;
            bits--;
            if (bits > 0) {
                return 0;
            }
            bits = 0;
            sc &= 0x7F;
            return ASK_CABLE;
        }
    }

    /** The copy into the sprites' memory. */
    private static final class Copy {
        static final int BYTES = 160;

        int written;
        int wait;
        int left;
        int source;

        void powerOn() {
            written = 0;
            wait = 0;
            left = 0;
            source = 0;
        }

        void copyFrom(Copy from) {
            written = from.written;
            wait = from.wait;
            left = from.left;
            source = from.source;
        }

        void begin(int v) {
            written = v;
            wait = 2;
        }

        /** The byte of the sprites' memory that is due in this machine cycle, or -1. */
        int nextPlace() {
            if (wait > 0) {
                wait--;
                if (wait == 0) {
                    left = BYTES;
                    source = 256 * (written >= 0xE0 ? written - 0x20 : written);
                }
            }
            if (left <= 0) {
                return -1;
            }
            left--;
            return BYTES - 1 - left;
        }

        int toCome() {
            return wait > 0 ? BYTES : left;
        }
    }

    /** The copy of blocks into the screen's memory. */
    private static final class Block {
        static final int SIZE = 16;

        final int[] places = new int[4];
        int source;
        int target;
        int left;
        int atOnce;
        int owed;
        int lastTold;

        void powerOn() {
            Console.clear(places);
            source = 0;
            target = 0;
            left = 0;
            atOnce = 0;
            owed = 0;
            lastTold = 255;
        }

        void copyFrom(Block from) {
            System.arraycopy(from.places, 0, places, 0, places.length);
            source = from.source;
            target = from.target;
            left = from.left;
            atOnce = from.atOnce;
            owed = from.owed;
            lastTold = from.lastTold;
        }

        void begin(int v) {
            if ((v & 128) == 0 && left > 0) {
                left = 0;
                lastTold = v | 128;
                return;
            }
            source = (places[0] << 8 | places[1]) & 0xFFF0;
            target = (places[2] << 8 | places[3]) & 0x1FF0;
            lastTold = 255;
            int blocks = (v & 127) + 1;
            if ((v & 128) != 0) {
                left = blocks;
            } else {
                atOnce = blocks;
            }
        }

        int told() {
            return left > 0 ? left - 1 : lastTold;
        }

        int idleCycles(boolean fast) {
            return fast ? 16 : 8;
        }

        void stepOn() {
            source = (source + 1) & 0xFFFF;
            target = (target + 1) & 0x1FFF;
        }
    }

    /** The screen, drawn dot by dot. */
    private static final class Screen {
        static final int WIDTH = 160;
        static final int HEIGHT = 144;
        static final int LINES = 154;
        static final int DOTS = 456;
        static final int ASK_BLANK = 1;
        static final int ASK_STAT = 2;
        static final int MODE_0_BEGINS = 256;

        static final int LCDC = 0;
        static final int STAT = 1;
        static final int SCY = 2;
        static final int SCX = 3;
        static final int LY = 4;
        static final int LYC = 5;
        static final int BGP = 7;
        static final int OBP0 = 8;
        static final int OBP1 = 9;
        static final int WY = 10;
        static final int WX = 11;
        static final int SPRITE_COLOURS = 64;
        static final int MOST_CHOSEN = 10;

        final int[] video = new int[0x4000];
        final int[] sprites = new int[160];
        final int[] picture = new int[WIDTH * HEIGHT];
        final int[] colours = new int[128];
        final int[] colourIndexes = new int[2];
        final int[] r = new int[12];
        final int[] chosen = new int[MOST_CHOSEN];
        int chosenCount;
        boolean colour;
        int videoBank;
        int dot;
        int mode;
        int fine;
        int window;
        boolean windowDrawn;
        boolean statLine;

        void powerOn(boolean inColour) {
            Console.clear(video);
            Console.clear(sprites);
            Console.clear(picture);
            Console.clear(colourIndexes);
            Console.clear(r);
            for (int i = 0; i < colours.length; i++) {
                colours[i] = 255;
            }
            r[LCDC] = 0x91;
            r[BGP] = 0xFC;
            colour = inColour;
            videoBank = 0;
            fine = 0;
            chosenCount = 0;
            windowDrawn = false;
            rest();
        }

        void rest() {
            r[LY] = 0;
            dot = 0;
            mode = 0;
            window = 0;
            statLine = false;
        }

        void copyFrom(Screen from) {
            System.arraycopy(from.video, 0, video, 0, video.length);
            System.arraycopy(from.sprites, 0, sprites, 0, sprites.length);
            System.arraycopy(from.picture, 0, picture, 0, picture.length);
            System.arraycopy(from.colours, 0, colours, 0, colours.length);
            System.arraycopy(from.colourIndexes, 0, colourIndexes, 0, colourIndexes.length);
            System.arraycopy(from.r, 0, r, 0, r.length);
            System.arraycopy(from.chosen, 0, chosen, 0, chosen.length);
            chosenCount = from.chosenCount;
            colour = from.colour;
            videoBank = from.videoBank;
            dot = from.dot;
            mode = from.mode;
            fine = from.fine;
            window = from.window;
            windowDrawn = from.windowDrawn;
            statLine = from.statLine;
        }

        int pictureSum() {
            int sum = 0;
            for (int i = 0; i < picture.length; i++) {
                sum = sum * 31 + picture[i];
            }
            return sum;
        }

        int videoBase() {
            return videoBank * 0x2000;
        }

        boolean blocks(int address) {
            if (mode == 3 && (address & 0xE000) == 0x8000) {
                return true;
            }
            return mode >= 2 && address >= 0xFE00 && address < 0xFEA0;
        }

        int readRegister(int which) {
            if (which == STAT) {
                return 0x80 | r[STAT] | (r[LY] == r[LYC] ? 4 : 0) | mode;
            }
            return r[which];
        }

        void writeRegister(int which, int v) {
            switch (which) {
                case LCDC: switchTo(v); break;
                case STAT: r[STAT] = v & 0x78; break;
                case LY: break;
                default: r[which] = v; break;
            }
        }

        void switchTo(int lcdc) {
            boolean goesOff = (r[LCDC] & 128) != 0 && (lcdc & 128) == 0;
            r[LCDC] = lcdc;
            if (goesOff) {
                rest();
            }
        }

        int readColour(int which) {
            return mode == 3 ? 255 : colours[which * SPRITE_COLOURS + (colourIndexes[which] & 63)];
        }

        void writeColour(int which, int v) {
            int index = colourIndexes[which];
            if (mode != 3) {
                colours[which * SPRITE_COLOURS + (index & 63)] = v;
            }
            if ((index & 128) != 0) {
                colourIndexes[which] = 128 | ((index + 1) & 63);
            }
        }

        /** One dot: what it asks for, and whether mode 0 begins. */
        int advance() {
            if ((r[LCDC] & 128) == 0) {
                return 0;
            }
            int events = 0;
            if (r[LY] < HEIGHT) {
                if (dot == 0) {
                    beginLine();
                } else if (dot == 80) {
                    beginDrawing();
                } else if (dot >= 92 + fine && dot < 252 + fine) {
                    draw(dot - 92 - fine);
                } else if (dot == 252 + fine) {
                    mode = 0;
                    events = MODE_0_BEGINS;
                }
            } else if (r[LY] == HEIGHT && dot == 0) {
                mode = 1;
                window = 0;
                events = ASK_BLANK;
            }
            dot++;
            if (dot == DOTS) {
                dot = 0;
                r[LY] = r[LY] + 1 < LINES ? r[LY] + 1 : 0;
            }
            return events | watch();
        }

        /** The bit to ask for if the STAT line rises now. */
        int watch() {
            boolean before = statLine;
            int stat = r[STAT];
            statLine = (r[LCDC] & 128) != 0
                && (((stat & 64) != 0 && r[LY] == r[LYC]) || (mode < 3 && (stat & 8 << mode) != 0));
            return statLine && !before ? ASK_STAT : 0;
        }

        void beginLine() {
            mode = 2;
            if (r[LY] == 0) {
                window = 0;
            } else if (windowDrawn) {
                window++;
            }
            windowDrawn = false;
        }

        void beginDrawing() {
            mode = 3;
            fine = r[SCX] & 7;
            chosenCount = 0;
            int height = spriteHeight();
            for (int at = 0; at < sprites.length && chosenCount < MOST_CHOSEN; at += 4) {
                int line = r[LY] - sprites[at] + 16;
                if (line >= 0 && line < height) {
                    chosen[chosenCount] = at;
                    chosenCount++;
                }
            }
        }

        int spriteHeight() {
            return (r[LCDC] & 4) != 0 ? 16 : 8;
        }

        void draw(int x) {
            int back = backgroundAt(x);
            int front = (r[LCDC] & 2) != 0 ? spriteAt(x) : 0;
            int place = r[LY] * WIDTH + x;
            if ((front & 3) != 0 && !hides(back, front)) {
                picture[place] = spriteShade(front);
            } else {
                picture[place] = backgroundShade(back);
            }
        }

        /** Four times the attributes, plus the colour. */
        int backgroundAt(int x) {
            int lcdc = r[LCDC];
            boolean inWindow = (lcdc & 32) != 0 && r[LY] >= r[WY] && x + 7 >= r[WX];
            windowDrawn |= inWindow;
            if (!colour && (lcdc & 1) == 0) {
                return 0;
            }
            int u = inWindow ? x + 7 - r[WX] : (x + r[SCX]) & 255;
            int v = inWindow ? window & 255 : (r[LY] + r[SCY]) & 255;
            int map = (lcdc & (inWindow ? 64 : 8)) == 0 ? 0x1800 : 0x1C00;
            int at = map + 32 * (v >> 3) + (u >> 3);
            int attributes = colour ? video[0x2000 + at] : 0;
            int tile = (lcdc & 16) != 0 ? 16 * video[at] : 0x1000 + 16 * (byte) video[at];
            int line = (attributes & 64) != 0 ? 7 - (v & 7) : v & 7;
            int column = (attributes & 32) != 0 ? 7 - (u & 7) : u & 7;
            int bank = (attributes & 8) != 0 ? 0x2000 : 0;
            return 4 * attributes + tileColour(bank + tile + 2 * line, column);
        }

        int tileColour(int at, int column) {
            int shift = 7 - column;
            return (video[at] >> shift & 1) | (video[at + 1] >> shift & 1) << 1;
        }

        /** Four times the attributes, plus the colour; the colour is 0 if there is none. */
        int spriteAt(int x) {
            int height = spriteHeight();
            int best = 0;
            int bestX = 256;
            for (int i = 0; i < chosenCount; i++) {
                int at = chosen[i];
                int left = sprites[at + 1];
                if (x + 8 < left || x + 1 > left || left >= bestX) {
                    continue;
                }
                int attributes = sprites[at + 3];
                int line = (r[LY] - sprites[at] + 16) & (height - 1);
                line = (attributes & 64) != 0 ? height - 1 - line : line;
                int column = x - left + 8;
                column = (attributes & 32) != 0 ? 7 - column : column;
                int tile = height == 16 ? sprites[at + 2] & 254 : sprites[at + 2];
                int bank = colour && (attributes & 8) != 0 ? 0x2000 : 0;
                int found = tileColour(bank + 16 * tile + 2 * line, column);
                if (found != 0) {
                    best = 4 * attributes + found;
                    // With colours the first one wins, so that none behind it may.
                    bestX = colour ? 0 : left;
                }
            }
            return best;
        }

        boolean hides(int back, int front) {
            boolean behind = ((back | front) & 4 * 128) != 0;
            return (back & 3) != 0 && behind && (!colour || (r[LCDC] & 1) != 0);
        }

        int spriteShade(int front) {
            if (colour) {
                return colourWord(SPRITE_COLOURS, front);
            }
            int palette = (front & 4 * 16) != 0 ? r[OBP1] : r[OBP0];
            return palette >> 2 * (front & 3) & 3;
        }

        int backgroundShade(int back) {
            if (colour) {
                return colourWord(0, back);
            }
            return (r[LCDC] & 1) == 0 ? 0 : r[BGP] >> 2 * (back & 3) & 3;
        }

        int colourWord(int base, int found) {
            int at = base + 2 * (found & 31);
            return (colours[at] | colours[at + 1] << 8) & 0x7FFF;
        }
    }

    /** The four channels, and what is heard of them. */
    private static final class Sound {
        static final int CHANNELS = 4;
        static final int SAMPLE_DOTS = 64;
        static final int FIRST = 0x10;
        static final int BEHIND_CHANNELS = 0x24;
        static final int WAVE = 0x30;
        static final int[] MASKS = {
            0x80, 0x3F, 0, 0xFF, 0xBF,
            0xFF, 0x3F, 0, 0xFF, 0xBF,
            0x7F, 0xFF, 0x9F, 0xFF, 0xBF,
            0xFF, 0xFF, 0, 0, 0xBF
        };

        final Channel[] channels = new Channel[CHANNELS];
        final int[] wave = new int[16];
        boolean isOn;
        int loudness;
        int sides;
        int stepAt;
        int owedDots;
        int untilSample;
        int heard;

        Sound() {
            for (int i = 0; i < CHANNELS; i++) {
                channels[i] = new Channel(i);
            }
        }

        void powerOn() {
            for (int i = 0; i < CHANNELS; i++) {
                channels[i].powerOn();
            }
            Console.clear(wave);
            isOn = true;
            loudness = 0;
            sides = 0;
            stepAt = 0;
            owedDots = 0;
            untilSample = SAMPLE_DOTS;
            heard = 0;
        }

        void copyFrom(Sound from) {
            for (int i = 0; i < CHANNELS; i++) {
                channels[i].copyFrom(from.channels[i]);
            }
            System.arraycopy(from.wave, 0, wave, 0, wave.length);
            isOn = from.isOn;
            loudness = from.loudness;
            sides = from.sides;
            stepAt = from.stepAt;
            owedDots = from.owedDots;
            untilSample = from.untilSample;
            heard = from.heard;
        }

        /** Dots are only counted here: the channels are made to follow once it can be told. */
        void advance(int dots) {
            if (dots < untilSample) {
                untilSample -= dots;
                owedDots += dots;
                return;
            }
            int beyond = dots - untilSample;
            owedDots += untilSample;
            settle();
            sample();
            owedDots = beyond;
            untilSample = SAMPLE_DOTS - beyond;
        }

        void settle() {
            int dots = owedDots;
            owedDots = 0;
            if (isOn && dots > 0) {
                for (int i = 0; i < CHANNELS; i++) {
                    channels[i].advance(dots);
                }
            }
        }

        void sample() {
            int left = 0;
            int right = 0;
            for (int i = 0; i < CHANNELS; i++) {
                int level = channels[i].level(wave);
                left += (sides >> 4 + i & 1) * level;
                right += (sides >> i & 1) * level;
            }
            left *= (loudness >> 4 & 7) + 1;
            right *= (loudness & 7) + 1;
            heard = heard * 31 + left * 512 + right;
        }

        int levelNow(int which) {
            settle();
            return channels[which].level(wave);
        }

        void step() {
            if (!isOn) {
                return;
            }
            int now = stepAt;
            stepAt = (stepAt + 1) & 7;
            if ((now & 1) == 0) {
                for (int i = 0; i < CHANNELS; i++) {
                    channels[i].shorten();
                }
            }
            if ((now & 3) == 2) {
                channels[0].sweep();
            }
            if (now == 7) {
                channels[0].followEnvelope();
                channels[1].followEnvelope();
                channels[3].followEnvelope();
            }
        }

        int read(int low) {
            if (low >= WAVE) {
                return wave[low - WAVE & 15];
            }
            if (low < BEHIND_CHANNELS) {
                int at = low - FIRST;
                return channels[at / 5].r[at % 5] | MASKS[at];
            }
            switch (low) {
                case 0x24: return loudness;
                case 0x25: return sides;
                case 0x26: return (isOn ? 0x80 : 0) | 0x70 | channelsOn();
                default: return 255;
            }
        }

        int channelsOn() {
            int bits = 0;
            for (int i = 0; i < CHANNELS; i++) {
                bits |= channels[i].on ? 1 << i : 0;
            }
            return bits;
        }

        void write(int low, int v) {
            settle();
            if (low >= WAVE) {
                wave[low - WAVE & 15] = v;
            } else if (low == 0x26) {
                turn((v & 128) != 0);
            } else if (isOn && low < BEHIND_CHANNELS) {
                int at = low - FIRST;
                channels[at / 5].set(at % 5, v);
            } else if (isOn && low == 0x24) {
                loudness = v;
            } else if (isOn && low == 0x25) {
                sides = v;
            }
        }

        void turn(boolean wanted) {
            if (wanted == isOn) {
                return;
            }
            isOn = wanted;
            if (wanted) {
                stepAt = 0;
            } else {
                loudness = 0;
                sides = 0;
            }
            for (int i = 0; i < CHANNELS; i++) {
                if (wanted) {
                    channels[i].position = 0;
                } else {
                    channels[i].silence();
                }
            }
        }
    }

    /** One channel of sound: 0 and 1 square waves, 2 the wave in memory, 3 noise. */
    private static final class Channel {
        static final int SWEEPING = 0;
        static final int WAVING = 2;
        static final int NOISING = 3;
        static final int HIGHEST = 2047;
        static final int[] DUTIES = {0x80, 0x81, 0xE1, 0x7E};
        static final int[] WAVE_SHIFTS = {4, 0, 1, 2};

        final int which;
        final int[] r = new int[5];
        boolean on;
        int length;
        int period;
        int position;
        int volume;
        int envelopeCount;
        int noise;
        int shadow;
        int sweepCount;
        boolean sweepCounts;

        Channel(int number) {
            which = number;
        }

        void powerOn() {
            silence();
            length = 0;
            period = 0;
            position = 0;
            volume = 0;
            envelopeCount = 0;
            noise = 0;
            shadow = 0;
            sweepCount = 0;
            sweepCounts = false;
        }

        void silence() {
            Console.clear(r);
            on = false;
        }

        void copyFrom(Channel from) {
            System.arraycopy(from.r, 0, r, 0, r.length);
            on = from.on;
            length = from.length;
            period = from.period;
            position = from.position;
            volume = from.volume;
            envelopeCount = from.envelopeCount;
            noise = from.noise;
            shadow = from.shadow;
            sweepCount = from.sweepCount;
            sweepCounts = from.sweepCounts;
        }

        int span() {
            if (which == NOISING) {
                int base = (r[3] & 7) == 0 ? 8 : 16 * (r[3] & 7);
                return base << (r[3] >> 4);
            }
            return (which == WAVING ? 2 : 4) * (2048 - ((r[4] & 7) << 8 | r[3]));
        }

        void advance(int dots) {
            period -= dots;
            if (period > 0) {
                return;
            }
            int span = span();
            for (int i = 0; i < dots && period <= 0; i++) {
                period += span;
                if (which == NOISING) {
                    shiftNoise();
                } else {
                    position = (position + 1) & (which == WAVING ? 31 : 7);
                }
            }
        }

        void shiftNoise() {
            int bit = (noise ^ noise >> 1) & 1;
            noise = (noise >> 1 & 0x3FFF) | bit << 14;
            if ((r[3] & 8) != 0) {
                noise = (noise & ~64) | bit << 6;
            }
        }

        int level(int[] wave) {
            if (!on) {
                return 0;
            }
            if (which == WAVING) {
                int both = wave[position >> 1 & 15];
                int half = (position & 1) == 0 ? both >> 4 : both & 15;
                return half >> WAVE_SHIFTS[r[2] >> 5 & 3];
            }
            if (which == NOISING) {
                return (noise & 1) == 0 ? volume : 0;
            }
            return (DUTIES[r[1] >> 6 & 3] >> position & 1) * volume;
        }

        boolean hasDac() {
            return which == WAVING ? (r[0] & 128) != 0 : (r[2] & 0xF8) != 0;
        }

        void set(int place, int v) {
            if (place == 0 && which != SWEEPING && which != WAVING) {
                return;
            }
            r[place] = v;
            if (place == 1) {
                length = which == WAVING ? 256 - v : 64 - (v & 63);
            }
            if (!hasDac()) {
                on = false;
            }
            if (place == 4 && (v & 128) != 0) {
                trigger();
            }
        }

        void trigger() {
            on = hasDac();
            if (length == 0) {
                length = which == WAVING ? 256 : 64;
            }
            period = span();
            if (which == WAVING) {
                position = 0;
                return;
            }
            volume = r[2] >> 4;
            envelopeCount = r[2] & 7;
            if (which == NOISING) {
                noise = 0x7FFF;
            } else if (which == SWEEPING) {
                shadow = (r[4] & 7) << 8 | r[3];
                sweepCount = sweepPace();
                sweepCounts = (r[0] & 0x77) != 0;
                if ((r[0] & 7) != 0) {
                    sweptFrequency();
                }
            }
        }

        int sweepPace() {
            int pace = r[0] >> 4 & 7;
            return pace == 0 ? 8 : pace;
        }

        /** The frequency that the sweep comes to; one that is too high ends the channel. */
        int sweptFrequency() {
            int change = shadow >> (r[0] & 7);
            int swept = (r[0] & 8) != 0 ? shadow - change : shadow + change;
            if (swept > HIGHEST) {
                on = false;
            }
            return swept;
        }

        void sweep() {
            sweepCount--;
            if (sweepCount > 0) {
                return;
            }
            sweepCount = sweepPace();
            if (!sweepCounts || (r[0] & 0x70) == 0) {
                return;
            }
            int swept = sweptFrequency();
            if (swept <= HIGHEST && (r[0] & 7) != 0) {
                shadow = swept;
                r[3] = swept & 255;
                r[4] = (r[4] & ~7) | swept >> 8;
                sweptFrequency();
            }
        }

        void shorten() {
            if ((r[4] & 64) != 0 && length > 0) {
                length--;
                if (length == 0) {
                    on = false;
                }
            }
        }

        void followEnvelope() {
            int pace = r[2] & 7;
            if (pace == 0) {
                return;
            }
            envelopeCount--;
            if (envelopeCount > 0) {
                return;
            }
            envelopeCount = pace;
            volume = (r[2] & 8) != 0 ? Math.min(volume + 1, 15) : Math.max(volume - 1, 0);
        }
    }
}
