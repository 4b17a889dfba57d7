/** One console of the Model: cartridge, M-CYCLES, timer, cable, COPY, BLOCK and memory. */
final class ModelConsole {
    private static final int[] TIMER_BITS = {9, 3, 5, 7};

    ModelConsole other;
    boolean isOff = true;
    long time;
    int keysDown;
    int[] image = new int[0];
    int[] ram = new int[0];
    int[] pixels = new int[160 * 144];
    private int banks;
    private int kind;
    private int ramBanks;
    boolean colour;

    private boolean ramOn;
    private int low;
    private int high;
    private int mode;
    private int lastLatchWrite;
    private int[] clock = new int[5];
    private int[] latched = new int[5];
    private int clockDots;

    ModelProcessor cpu;
    ModelScreen screen;
    ModelSound sound;
    boolean fast;
    private int key1;
    int ie;
    int requested;
    private int p1;
    private int sb;
    private int sc;
    private int bits;
    private int rate;
    private int divider;
    private int tima;
    private int tma;
    private int tac;
    private int wait;
    private boolean timerLine;
    private boolean soundLine;
    private int copyWritten;
    private int copyIn;
    private int copyAt;
    private int copySource;
    int[] sprites = new int[160];
    int[] video = new int[16384];
    int vbk;
    private int[] work = new int[8 * 4096];
    private int svbk;
    private int[] highMemory = new int[127];
    private int[] blockPlaces = new int[4];
    private int blockSource;
    private int blockGoal;
    private int blocksLeft;
    private int blockTold;
    private int idleOwed;

    /** A copy of its own; what joins it to another is left to the Model. */
    ModelConsole copy() {
        ModelConsole copy = new ModelConsole();
        copyFields(this, copy);
        if (cpu != null) {
            copy.cpu = new ModelProcessor(copy);
            copyFields(cpu, copy.cpu);
            copy.cpu.console = copy;
            copy.screen = new ModelScreen(copy);
            copyFields(screen, copy.screen);
            copy.screen.console = copy;
            copy.sound = new ModelSound();
            copyFields(sound, copy.sound);
        }
        copy.other = null;
        return copy;
    }

    private static void copyFields(Object from, Object to) {
        try {
            for (java.lang.reflect.Field field : from.getClass().getDeclaredFields()) {
                if (java.lang.reflect.Modifier.isStatic(field.getModifiers())) {
                    continue;
                }
                field.setAccessible(true);
                Object value = field.get(from);
                if (value instanceof int[] row) {
                    value = row.clone();
                } else if (value instanceof boolean[] row) {
                    value = row.clone();
                }
                field.set(to, value);
            }
        } catch (IllegalAccessException e) {
            throw new IllegalStateException(e);
        }
    }

    int insert(int[] bytes) {
        isOff = false;
        banks = 2;
        while (banks * 16384 < bytes.length) {
            banks *= 2;
        }
        image = new int[banks * 16384];
        java.util.Arrays.fill(image, 255);
        System.arraycopy(bytes, 0, image, 0, bytes.length);
        colour = image[0x143] >= 128;
        int code = image[0x147];
        kind = code == 0 ? 0 : code <= 3 ? 1 : code <= 6 ? 2 : code <= 0x13 ? 3 : 5;
        ramBanks = image[0x149] == 0 ? 0 : image[0x149] == 2 ? 1 : 4;
        ram = new int[kind == 2 ? 512 : kind == 0 ? 0 : 8192 * ramBanks];
        clock = new int[5];
        latched = new int[5];
        powerOn();
        return banks;
    }

    void powerOn() {
        ramOn = false;
        low = 1;
        high = 0;
        mode = 0;
        lastLatchWrite = -1;
        clockDots = 0;
        cpu = new ModelProcessor(this);
        screen = new ModelScreen(this);
        sound = new ModelSound();
        pixels = new int[160 * 144];
        fast = false;
        key1 = 0;
        ie = 0;
        requested = 1;
        p1 = 0;
        sb = 0;
        sc = 0;
        bits = 0;
        rate = 0;
        divider = 0;
        tima = 0;
        tma = 0;
        tac = 0;
        wait = 0;
        timerLine = false;
        soundLine = false;
        copyWritten = 0;
        copyIn = 0;
        copyAt = 160;
        copySource = 0;
        sprites = new int[160];
        video = new int[16384];
        vbk = 0;
        work = new int[8 * 4096];
        svbk = 0;
        highMemory = new int[127];
        blockPlaces = new int[4];
        blockSource = 0;
        blockGoal = 0;
        blocksLeft = 0;
        blockTold = 255;
        idleOwed = 0;
    }

    void ask(int k) {
        requested |= 1 << k;
    }

    void press(int v) {
        int before = keyBits();
        keysDown = v;
        fallOfKeys(before);
    }

    private void fallOfKeys(int before) {
        for (int k = 0; k < 4; k++) {
            if ((before >> k & 1) == 1 && (keyBits() >> k & 1) == 0 && !isOff) {
                ask(4);
            }
        }
    }

    int keyBits() {
        int found = 15;
        for (int k = 0; k < 4; k++) {
            boolean direction = (p1 & 16) == 0 && (keysDown >> k & 1) == 1;
            boolean button = (p1 & 32) == 0 && (keysDown >> k + 4 & 1) == 1;
            if (direction || button) {
                found -= 1 << k;
            }
        }
        return found;
    }

    void goOn() {
        cpu.step();
    }

    /** M-CYCLES of the processor: those that a slow BLOCK owes come before. */
    void idle() {
        while (idleOwed > 0) {
            idleOwed--;
            cycle();
        }
        cycle();
    }

    int read(int address) {
        idle();
        return seen(address);
    }

    void write(int address, int v) {
        idle();
        put(address, v);
    }

    private void cycle() {
        for (int k = 0; k < 4; k++) {
            clock();
        }
        if (copyIn > 0) {
            copyIn--;
            if (copyIn == 0) {
                copyAt = 0;
                copySource = 256 * copyWritten - (copyWritten >= 0xE0 ? 8192 : 0);
            }
        }
        if (copyAt < 160) {
            sprites[copyAt] = unblocked(copySource + copyAt);
            copyAt++;
        }
        for (int k = 0; k < (fast ? 2 : 4); k++) {
            dot();
        }
    }

    private void clock() {
        if (wait > 0) {
            wait--;
            if (wait == 0) {
                tima = tma;
                ask(2);
            }
        }
        divider = (divider + 1) % 65536;
        lookAtLines();
        if ((sc & 0x81) == 0x81) {
            rate--;
            if (rate == 0) {
                rate = fullRate();
                exchange();
            }
        }
    }

    /** Both lines, looked at whenever something may have changed them. */
    private void lookAtLines() {
        boolean timer = (tac & 4) != 0 && (divider >> TIMER_BITS[tac & 3] & 1) == 1;
        if (timerLine && !timer) {
            tima++;
            if (tima == 256) {
                tima = 0;
                wait = 4;
            }
        }
        timerLine = timer;
        boolean forSound = (divider >> (fast ? 13 : 12) & 1) == 1;
        if (soundLine && !forSound) {
            sound.step();
        }
        soundLine = forSound;
    }

    private int fullRate() {
        return colour && (sc & 2) != 0 ? 16 : 512;
    }

    private void exchange() {
        boolean both = !other.isOff && (other.sc & 0x81) == 0x80;
        int mine = sb / 128;
        int theirs = both ? other.sb / 128 : 1;
        shift(theirs);
        if (both) {
            other.shift(mine);
        }
    }

    private void shift(int bit) {
        sb = (sb * 2 + bit) % 256;
        bits--;
        if (bits == 0) {
            sc &= 0x7F;
            ask(3);
        }
    }

    private void dot() {
        time++;
        screen.dot();
        sound.dot();
        clockDots++;
        if (clockDots == 4194304) {
            clockDots = 0;
            if ((clock[4] & 64) == 0) {
                second();
            }
        }
    }

    private void second() {
        clock[0] = (clock[0] + 1) % 64;
        if (clock[0] != 60) {
            return;
        }
        clock[0] = 0;
        clock[1] = (clock[1] + 1) % 64;
        if (clock[1] != 60) {
            return;
        }
        clock[1] = 0;
        clock[2] = (clock[2] + 1) % 32;
        if (clock[2] != 24) {
            return;
        }
        clock[2] = 0;
        int day = clock[3] + 256 * (clock[4] & 1) + 1;
        clock[3] = day % 256;
        clock[4] = clock[4] & 0xC0 | day / 256 % 2;
        if (day == 512) {
            clock[4] |= 128;
        }
    }

    /** Mode 0 begins. */
    void slowBlock() {
        if (blocksLeft > 0) {
            copyBlock();
            blocksLeft--;
            idleOwed += fast ? 16 : 8;
        }
    }

    private void copyBlock() {
        for (int k = 0; k < 16; k++) {
            boolean none = blockSource >= 0x8000 && blockSource < 0xA000 || blockSource >= 0xE000;
            video[8192 * vbk + blockGoal] = none ? 255 : unblocked(blockSource);
            blockSource = (blockSource + 1) % 65536;
            blockGoal = (blockGoal + 1) % 8192;
        }
    }

    private void writeBlock(int v) {
        if (v < 128 && blocksLeft > 0) {
            blocksLeft = 0;
            blockTold = v | 128;
            return;
        }
        blockSource = (256 * blockPlaces[0] + blockPlaces[1]) / 16 * 16;
        blockGoal = (256 * blockPlaces[2] + blockPlaces[3]) / 16 % 512 * 16;
        blockTold = 255;
        int n = v % 128 + 1;
        if (v >= 128) {
            blocksLeft = n;
            return;
        }
        for (int k = 0; k < n; k++) {
            copyBlock();
            for (int i = 0; i < (fast ? 16 : 8); i++) {
                cycle();
            }
        }
    }

    void stop() {
        divider = 0;
        lookAtLines();
        if (colour && key1 == 1) {
            fast = !fast;
            key1 = 0;
            lookAtLines();
        } else {
            cpu.state = 2;
        }
    }

    int seen(int address) {
        boolean copying = copyAt < 160;
        if (copying && address < 0xFF00) {
            return 255;
        }
        if (address >= 0x8000 && address < 0xA000 && screen.mode == 3) {
            return 255;
        }
        if (address >= 0xFE00 && address < 0xFEA0 && screen.mode >= 2) {
            return 255;
        }
        return unblocked(address);
    }

    private int unblocked(int address) {
        if (address < 0x8000) {
            return image[bankOf(address) % banks * 16384 + address % 16384];
        }
        if (address < 0xA000) {
            return video[8192 * vbk + address - 0x8000];
        }
        if (address < 0xC000) {
            return cartridgeRam(address);
        }
        if (address < 0xFE00) {
            return work[workPlace(address)];
        }
        if (address < 0xFF00) {
            return address < 0xFEA0 ? sprites[address - 0xFE00] : 0;
        }
        if (address == 0xFFFF) {
            return ie;
        }
        return address >= 0xFF80 ? highMemory[address - 0xFF80] : register(address - 0xFF00);
    }

    private int workPlace(int address) {
        int place = address >= 0xE000 ? address - 0xE000 : address - 0xC000;
        if (place < 4096) {
            return place;
        }
        int bank = colour ? Math.max(1, svbk) : 1;
        return 4096 * bank + place - 4096;
    }

    private int bankOf(int address) {
        if (address < 0x4000) {
            return kind == 1 && mode == 1 ? 32 * high : 0;
        }
        return kind == 0 ? 1 : kind == 1 ? low + 32 * high : low;
    }

    /** The place in RAM, or -1. */
    private int ramPlace(int address) {
        if (kind == 0 || !ramOn || ram.length == 0) {
            return -1;
        }
        if (kind == 2) {
            return address % 512;
        }
        if (kind == 3 && high >= 4) {
            return -1;
        }
        int bank = kind == 1 ? (mode == 1 ? high : 0) : high;
        return bank % ramBanks * 8192 + address % 8192;
    }

    private int cartridgeRam(int address) {
        if (kind == 3 && ramOn && high >= 8 && high <= 12) {
            return latched[high - 8];
        }
        int place = ramPlace(address);
        return place < 0 ? 255 : kind == 2 ? ram[place] | 0xF0 : ram[place];
    }

    private void putCartridgeRam(int address, int v) {
        if (kind == 3 && ramOn && high >= 8 && high <= 12) {
            int[] masks = {63, 63, 31, 255, 0xC1};
            clock[high - 8] = v & masks[high - 8];
            latched[high - 8] = v & masks[high - 8];
            if (high == 8) {
                clockDots = 0;
            }
            return;
        }
        int place = ramPlace(address);
        if (place >= 0) {
            ram[place] = kind == 2 ? v % 16 : v;
        }
    }

    private void putCartridge(int address, int v) {
        int part = address / 0x2000;
        if (kind == 1) {
            switch (part) {
                case 0 -> ramOn = v % 16 == 10;
                case 1 -> low = v % 32 == 0 ? 1 : v % 32;
                case 2 -> high = v % 4;
                default -> mode = v % 2;
            }
        } else if (kind == 2 && part < 2) {
            if ((address & 256) == 0) {
                ramOn = v % 16 == 10;
            } else {
                low = v % 16 == 0 ? 1 : v % 16;
            }
        } else if (kind == 3) {
            switch (part) {
                case 0 -> ramOn = v % 16 == 10;
                case 1 -> low = v % 128 == 0 ? 1 : v % 128;
                case 2 -> high = v % 16;
                default -> {
                    if (v == 1 && lastLatchWrite == 0) {
                        latched = clock.clone();
                    }
                    lastLatchWrite = v;
                }
            }
        } else if (kind == 5) {
            if (part == 0) {
                ramOn = v == 10;
            } else if (address < 0x3000) {
                low = low / 256 * 256 + v;
            } else if (address < 0x4000) {
                low = low % 256 + v % 2 * 256;
            } else if (address < 0x6000) {
                high = v % 16;
            }
        }
    }

    private void put(int address, int v) {
        if (address >= 0xFF00) {
            if (address == 0xFFFF) {
                ie = v;
            } else if (address >= 0xFF80) {
                highMemory[address - 0xFF80] = v;
            } else {
                putRegister(address - 0xFF00, v);
                screen.lookAtStatLine();
                if (address == 0xFF55 && colour) {
                    writeBlock(v);
                }
            }
            return;
        }
        boolean video = address >= 0x8000 && address < 0xA000;
        boolean inSprites = address >= 0xFE00 && address < 0xFEA0;
        if (copyAt < 160 || video && screen.mode == 3 || inSprites && screen.mode >= 2) {
            return;
        }
        if (address < 0x8000) {
            putCartridge(address, v);
        } else if (video) {
            this.video[8192 * vbk + address - 0x8000] = v;
        } else if (address < 0xC000) {
            putCartridgeRam(address, v);
        } else if (address < 0xFE00) {
            work[workPlace(address)] = v;
        } else if (inSprites) {
            sprites[address - 0xFE00] = v;
        }
    }

    private int register(int low) {
        if (low >= 0x10 && low <= 0x3F) {
            return sound.read(low);
        }
        if (low >= 0x40 && low <= 0x4B && low != 0x46) {
            return screen.read(low);
        }
        switch (low) {
            case 0x00: return 0xC0 | p1 | keyBits();
            case 0x01: return sb;
            case 0x02: return sc | (colour ? 0x7C : 0x7E);
            case 0x04: return divider / 256;
            case 0x05: return tima;
            case 0x06: return tma;
            case 0x07: return tac | 0xF8;
            case 0x0F: return requested | 0xE0;
            case 0x46: return copyWritten;
            default: break;
        }
        if (!colour) {
            return 255;
        }
        switch (low) {
            case 0x4D: return 0x7E | key1 | (fast ? 128 : 0);
            case 0x4F: return 0xFE | vbk;
            case 0x55: return blocksLeft > 0 ? blocksLeft - 1 : blockTold;
            case 0x68: case 0x69: case 0x6A: case 0x6B: return screen.read(low);
            case 0x70: return 0xF8 | svbk;
            default: return 255;
        }
    }

    private void putRegister(int low, int v) {
        if (low >= 0x10 && low <= 0x3F) {
            sound.write(low, v);
        } else if (low >= 0x40 && low <= 0x4B && low != 0x46 || colour && low >= 0x68 && low <= 0x6B) {
            screen.write(low, v);
        } else if (low == 0x46) {
            copyWritten = v;
            copyIn = 2;
        } else if (low < 0x10) {
            putFirst(low, v);
        } else if (colour) {
            putColour(low, v);
        }
    }

    private void putFirst(int low, int v) {
        switch (low) {
            case 0x00 -> {
                int before = keyBits();
                p1 = v & 0x30;
                fallOfKeys(before);
            }
            case 0x01 -> sb = v;
            case 0x02 -> {
                sc = v & (colour ? 0x83 : 0x81);
                bits = 8;
                rate = fullRate();
            }
            case 0x04 -> divider = 0;
            case 0x05 -> {
                tima = v;
                wait = 0;
            }
            case 0x06 -> tma = v;
            case 0x07 -> tac = v & 7;
            case 0x0F -> requested = v & 31;
            default -> {
            }
        }
        lookAtLines();
    }

    private void putColour(int low, int v) {
        switch (low) {
            case 0x4D -> key1 = v & 1;
            case 0x4F -> vbk = v & 1;
            case 0x51, 0x52, 0x53, 0x54 -> blockPlaces[low - 0x51] = v;
            case 0x70 -> svbk = v & 7;
            default -> {
            }
        }
    }

    int about(int what) {
        if (what <= 11) {
            return cpu.about(what);
        }
        if (what >= 16 && what <= 19) {
            return sound.level(what - 16);
        }
        switch (what) {
            case 12: return divider;
            case 13: return fast ? 1 : 0;
            case 14: return screen.dot;
            case 15: return screen.window;
            case 20: return sound.heard;
            case 21: return low;
            case 22: return high;
            case 23: return copyIn > 0 ? 160 : 160 - copyAt;
            case 24: return blocksLeft;
            default: return bits;
        }
    }
}
