/** Programs by chance that use all of a console: what they do is of no matter, but that two ways of doing it agree. */
final class ChanceRom {
    static final int THEMES = 9;
    private static final int TILES = 0x1C00;
    private static final int SPRITES = 0x1D00;
    private static final int MAP = 0x1E00;
    private static final int SCREEN = 0;
    private static final int COLOURS = 1;
    private static final int SOUND = 2;
    private static final int LOUD = 3;
    private static final int TIMES = 4;
    private static final int CABLE = 5;
    private static final int BANKS = 6;
    private static final int MIXED = 7;
    private static final int WILD = 8;

    private final Chance chance;
    private final Rom rom;
    private final int theme;
    private final boolean colour;

    ChanceRom(Chance chance, int theme) {
        this.chance = chance;
        this.theme = theme;
        rom = new Rom(chance.of(0x2000, 0x2000, 0x8000, 0x9000, 0x10000));
        colour = theme == COLOURS || theme != SCREEN && chance.one(2);
    }

    Rom build() {
        rom.kind(chance.of(0, 1, 2, 3, 3, 5, 6, 0x0F, 0x10, 0x13, 0x19, 0x1B, 0x1E), chance.of(0, 2, 3, 3));
        if (colour) {
            rom.colour();
        }
        handlers();
        pages();
        if (theme == WILD) {
            wild();
            return rom;
        }
        setUp();
        int top = rom.here();
        int end = top + 80 + chance.below(400);
        while (rom.here() < end) {
            if (chance.below(3) > 0) {
                themed();
            } else {
                segment();
            }
        }
        rom.code(0xC3, top, top >> 8);
        return rom;
    }

    /** Interrupts end soon; a call of $38, which a COPY makes of a program, ends with it. */
    private void handlers() {
        for (int k = 0; k < 5; k++) {
            boolean first = chance.one(2);
            rom.put(0x40 + 8 * k, first ? 0xF5 : 0xC5, 0x3C, 0xE0, 0x90 + k, first ? 0xF1 : 0xC1, chance.one(4) ? 0xC9 : 0xD9);
        }
        rom.put(0x38, 0xC9, 0xC9);
    }

    /** What is copied to VIDEO and to the sprites, and some bytes in each bank. */
    private void pages() {
        for (int i = 0; i < 160; i++) {
            rom.put(TILES + i, chance.below(256)).put(MAP + i, chance.below(chance.of(4, 12, 256)));
            rom.put(SPRITES + i, i % 4 == 0 ? chance.below(100) : i % 4 == 1 ? chance.below(176) : chance.below(i % 4 == 2 ? 10 : 256));
        }
        for (int bank = 0x4000; bank < rom.bytes.length; bank += 0x4000) {
            for (int i = 0; i < 20; i++) {
                rom.put(bank + 0x80 + i, chance.below(256));
            }
        }
    }

    private void wild() {
        for (int i = 0; i < 300; i++) {
            int code = chance.below(256);
            boolean stuck = code >= 0xD0 && (code & 7) >= 3 && (code & 7) != 6 && (code & 7) != 7 || code == 0xE3 || code == 0xF4;
            rom.code(stuck && !chance.one(20) ? 0 : code);
        }
        rom.code(0xC3, 0x50, 0x01);
    }

    private void setUp() {
        // Routines in HIGH memory: a COPY, and a wait for its end; one that begins it twice, and uses a stack it blocks.
        int[] routine = {0xE0, 0x46, 0x3E, 0x28, 0x3D, 0x20, 0xFD, 0xC9};
        int[] second = {0xE0, 0x46, 0x31, 0x10, chance.of(0xC1, 0xDF), 0xE5, 0x05, 0xD1, 0xE0, 0x46, 0x7E, 0xE0, 0x8A, 0x31, 0xFC, 0xFF, 0x18, 0xE8};
        rom.put(0xE0, routine).put(0xE8, second).copyLoop(0xE0, 0xFFA0, routine.length + second.length);
        if (theme == BANKS || theme == MIXED) {
            for (int i = 0; i < 3; i++) {
                rom.ldh(chance.of(0x70, 0x70, 0x4F), chance.below(8)).copyLoop(TILES + chance.below(100), chance.of(0xC000, 0xD000, 0xD000, 0xA000), 60);
            }
        }
        if (theme == SCREEN || theme == COLOURS || theme == MIXED) {
            scene();
        }
        if (theme == SOUND || theme == LOUD || theme == MIXED) {
            tune();
        }
        rom.ldh(0xFF, chance.below(32) | 16);
        if (chance.one(2)) {
            rom.code(0xFB);
        }
        if (colour && chance.one(3)) {
            rom.ldh(0x4D, 1).code(0x10, 0x00);
        }
    }

    /** The screen off, then tiles, maps, sprites and colours. */
    private void scene() {
        rom.ldh(0x40, 0).copyLoop(TILES, 0x8000 + 16 * chance.below(4), 160).copyLoop(MAP, 0x9800 + 32 * chance.below(3), 160);
        rom.copyLoop(MAP + chance.below(32), 0x9C00 + 32 * chance.below(3), 128);
        rom.copyLoop(TILES, chance.of(0x8800, 0x9000), 160).code(0x3E, SPRITES >> 8, 0xCD, 0xA0, 0xFF);
        if (colour) {
            rom.ldh(0x4F, 1).copyLoop(TILES + chance.below(30), 0x9800, 128).copyLoop(TILES, 0x8000 + 16 * chance.below(8), 128).ldh(0x4F, 0);
            rom.ldh(0x68, 0x80).code(0x06, 64, 0x78, 0x87, 0xA8, 0xE0, 0x69, 0x05, 0x20, 0xF8);
            rom.ldh(0x6A, 0x80).code(0x06, 64, 0x78, 0x07, 0x2F, 0xE0, 0x6B, 0x05, 0x20, 0xF8);
        }
        rom.ldh(0x47, chance.of(0xE4, 0x1B, chance.below(256))).ldh(0x48, chance.of(0xE4, chance.below(256))).ldh(0x49, chance.of(0x1B, chance.below(256)));
        rom.ldh(0x4A, chance.below(90)).ldh(0x4B, chance.below(170)).ldh(0x40, 0x80 | chance.below(128));
    }

    private void tune() {
        rom.ldh(0x26, 0x80).ldh(0x24, chance.below(256)).ldh(0x25, chance.of(0xFF, chance.below(256)));
        rom.copyLoop(TILES + chance.below(100), 0xFF30, 16);
        rom.ldh(0x12, 0x80 | chance.below(128)).ldh(0x17, 0x80 | chance.below(128)).ldh(0x21, 0x80 | chance.below(128)).ldh(0x1A, 0x80).ldh(0x1C, 0x20 + 32 * chance.below(3));
        rom.ldh(0x22, chance.below(0x40)).ldh(0x11, chance.below(256)).ldh(0x16, chance.below(256));
        rom.ldh(0x14, 0x80 | chance.below(128)).ldh(0x19, 0x80 | chance.below(128)).ldh(0x1E, 0x80 | chance.below(128)).ldh(0x23, 0x80 | chance.below(128));
    }

    /** Sound was off: all is written anew, or just enough to hear what stayed. */
    private void again() {
        if (chance.one(3)) {
            tune();
            return;
        }
        rom.ldh(0x25, 0xFF).ldh(0x12, 0xF0).ldh(0x17, 0xF1).ldh(0x21, 0xF9).ldh(0x1A, 0x80).ldh(0x1C, 0x20).ldh(0x10, chance.below(128));
        if (chance.one(2)) {
            pause(20000);
        }
        rom.ldh(0x14, 0xC0 | chance.below(8)).ldh(0x19, 0xC7).ldh(0x1E, 0xC7).ldh(0x23, 0xC0);
    }

    private void segment() {
        switch (chance.below(15)) {
            case 0 -> register();
            case 1 -> memory();
            case 2 -> peek();
            case 3, 4 -> arithmetic();
            case 5 -> bits();
            case 6 -> loop();
            case 7 -> stack();
            case 8 -> jumps();
            case 9 -> rom.code(chance.of(0xFB, 0xFB, 0xF3));
            case 10 -> waits();
            case 11 -> copies();
            case 12 -> blocks();
            case 13 -> cartridge();
            default -> rom.nops(chance.below(40));
        }
    }

    private void themed() {
        switch (theme) {
            case SCREEN, COLOURS -> picture();
            case SOUND, LOUD -> sound();
            case TIMES -> rom.ldh(chance.of(4, 5, 6, 7, 7, 0x0F), chance.of(0, 1, 4, 5, 6, 7, 0xF0, 0xFE, 0xFF, chance.below(256)));
            case CABLE -> {
                rom.ldh(1, chance.below(256)).ldh(2, chance.of(0x80, 0x81, 0x81, 0x82, 0x83, chance.below(256)));
                pause(chance.of(300, 2000, 5000));
            }
            case BANKS -> cartridge();
            case MIXED -> {
                if (chance.one(2)) {
                    picture();
                } else {
                    sound();
                }
            }
            default -> arithmetic();
        }
        if (chance.one(3)) {
            rom.nops(chance.below(20));
        }
    }

    private void picture() {
        int low = chance.of(0x40, 0x42, 0x43, 0x47, 0x48, 0x49, 0x4A, 0x4B, 0x45, 0x41);
        int v = chance.below(chance.of(256, 170, 40));
        switch (chance.below(8)) {
            case 0 -> pause(chance.of(200, 456, 3000, 9000));
            case 1 -> rom.code(0x3E, chance.of(SPRITES >> 8, SPRITES >> 8, MAP >> 8, 0xC0), 0xCD, 0xA0, 0xFF);
            case 2 -> rom.poke(chance.of(0x8000 + chance.below(256), 0x9800 + chance.below(0x800)), chance.below(256));
            case 3 -> blocks();
            default -> rom.ldh(low, low == 0x40 ? v | (chance.one(9) ? 0 : 0x80) : v);
        }
    }

    /** Up to so many DOTS go by. */
    private void pause(int most) {
        int rounds = chance.below(most) / 28;
        rom.code(0x01, rounds + 1, rounds + 1 >> 8, 0x0B, 0x78, 0xB1, 0x20, 0xFB);
    }

    private void sound() {
        int low = chance.between(0x10, 0x25);
        int v = chance.below(256);
        switch (chance.below(9)) {
            case 0, 1 -> pause(chance.of(300, 4000, 20000, 30000));
            case 2 -> rom.ldh(chance.of(0x14, 0x19, 0x1E, 0x23), v | 0x80);
            case 3 -> rom.ldh(chance.of(0x11, 0x16, 0x20, 0x1B), v | chance.of(0, 0x3C));
            case 4 -> rom.ldh(chance.of(0x10, 0x10, 0x12, 0x17, 0x21), v & chance.of(0x1F, 0xFF));
            case 5 -> {
                if (chance.one(4)) {
                    rom.ldh(0x26, v & 0x7F).nops(chance.below(40)).ldh(chance.of(0x11, 0x16, 0x1B, 0x20, 0x24, 0x30), v).ldh(0x26, 0x80);
                    again();
                }
            }
            case 6 -> rom.ldh(0x30 + chance.below(16), v).ldh(0x26, 0x80 | v);
            default -> rom.ldh(low, low == 0x22 ? v & 0x3F : v);
        }
    }

    private void register() {
        int low = chance.below(0x78);
        int v = chance.below(256);
        if (low == 0x40 || low == 0x26) {
            v |= chance.one(4) ? 0 : 0x80;
        }
        if (low != 0x46 && low != 0x55) {
            rom.ldh(low, v);
        }
    }

    private int place() {
        return chance.of(0x8000 + chance.below(0x2000), 0xA000 + chance.below(0x2000), 0xC000 + chance.below(0x2000), 0xC000 + chance.below(0x2000),
            0xE000 + chance.below(0x1E00), 0xFE00 + chance.below(0x100), 0xFF80 + chance.below(16), 0xC000 + chance.below(256), 0xA000 + chance.below(16));
    }

    private void memory() {
        for (int i = chance.below(4); i >= 0; i--) {
            rom.poke(place(), chance.below(256));
        }
    }

    private void peek() {
        if (chance.one(2)) {
            rom.code(0xF0, chance.below(0x80), 0xE0, 0x80 + chance.below(16));
        } else {
            rom.peek(chance.one(2) ? place() : chance.below(0x10000), 0x80 + chance.below(16));
        }
    }

    private void arithmetic() {
        rom.code(0x21, chance.below(256), 0xC0 + chance.below(0x1E));
        for (int i = chance.below(8); i >= 0; i--) {
            int kind = chance.below(6);
            if (kind == 0) {
                rom.code(chance.of(0x06, 0x0E, 0x16, 0x1E, 0x2E, 0x3E, 0xC6, 0xCE, 0xD6, 0xDE, 0xE6, 0xEE, 0xF6, 0xFE), chance.below(256));
            } else if (kind == 1) {
                rom.code(chance.of(0x03, 0x0B, 0x13, 0x1B, 0x09, 0x19, 0x29, 0x39, 0x07, 0x0F, 0x17, 0x1F, 0x27, 0x2F, 0x37, 0x3F));
            } else if (kind == 2) {
                rom.code(chance.of(0x04, 0x05, 0x0C, 0x0D, 0x14, 0x15, 0x1C, 0x1D, 0x2C, 0x2D, 0x3C, 0x3D, 0x34, 0x35));
            } else if (kind == 3) {
                int code = 0x40 + chance.below(0x40);
                rom.code(code == 0x76 || code >= 0x60 && code < 0x68 ? 0x7E : code);
            } else {
                rom.code(0x80 + chance.below(0x40));
            }
        }
    }

    private void bits() {
        int page = chance.of(0xC0, 0xD1, 0x80, 0xFF, 0xFE);
        rom.code(0x21, page == 0xFF ? 0x80 + chance.below(16) : chance.below(256), page);
        for (int i = chance.below(5); i >= 0; i--) {
            rom.code(0xCB, chance.below(256));
        }
    }

    private void loop() {
        int inside = chance.below(6);
        rom.code(0x06, 1 + chance.below(40)).nops(inside).code(0x05, 0x20, -3 - inside);
    }

    private void stack() {
        int pushed = chance.of(0xC5, 0xD5, 0xE5, 0xF5);
        int popped = chance.of(0xC1, 0xD1, 0xE1, 0xF1);
        switch (chance.below(5)) {
            case 0 -> rom.code(pushed, popped);
            case 1 -> rom.code(0x08, chance.below(256), 0xC0 + chance.below(0x20), 0xF8, chance.below(256));
            case 2 -> {
                int d = chance.below(20);
                rom.code(0xE8, d, 0xE8, -d);
            }
            // The stack elsewhere for a while.
            case 3 -> rom.code(0x31, chance.below(256), chance.of(0xC1, 0x90, 0xA0, 0xFE, 0xDF), pushed, popped, pushed).nops(chance.below(9)).code(popped, 0x31, 0xFE, 0xFF);
            default -> {
                int to = rom.here() + 6;
                rom.code(0xCD, to, to >> 8, 0x18, 0x03, 0x00, 0x3C, chance.of(0xC9, 0xD9, 0xC9), 0x00);
            }
        }
    }

    private void jumps() {
        int code = chance.of(0x18, 0x20, 0x28, 0x30, 0x38);
        if (chance.one(2)) {
            rom.code(code, 2, 0x3C, 0x2F);
        } else {
            int to = rom.here() + 5;
            rom.code(chance.of(0xC2, 0xCA, 0xD2, 0xDA, 0xC3), to, to >> 8, 0x3D, 0x17);
        }
    }

    private void waits() {
        switch (chance.below(8)) {
            case 0 -> rom.ldh(0xFF, 0x1F).code(0x76);
            case 1 -> rom.ldh(0xFF, chance.below(32) | 0x11).code(0xFB, 0x76, 0x3C);
            case 2 -> rom.ldh(0xFF, chance.below(32) | 0x15).ldh(0x07, chance.between(4, 7)).code(0x76, 0x04);
            case 3 -> {
                if (colour) {
                    rom.ldh(0x4D, 1).code(0x10, 0x00);
                }
            }
            case 4 -> rom.ldh(0, chance.below(4) << 4).code(chance.one(3) ? 0x10 : 0x00, 0x00);
            default -> rom.ldh(0xFF, chance.below(256) | 16);
        }
    }

    private void copies() {
        int page = chance.of(0xC0, 0xD0, 0x00, 0x40, 0x80, 0xA0, 0xE1, 0xFE, chance.below(256));
        if (chance.one(5)) {
            rom.ldh(0x46, page);
        } else {
            rom.code(0x3E, page, 0xCD, chance.of(0xA0, 0xA8), 0xFF);
        }
    }

    private void blocks() {
        if (!colour) {
            copies();
            return;
        }
        int source = chance.of(0x0000, TILES, 0x4000, 0xA000, 0xC000, 0xD000, 0x9FF0, 0xDFF0) + chance.below(chance.of(16, 256, 0x1000));
        rom.ldh(0x51, source >> 8).ldh(0x52, source & 255).ldh(0x53, chance.below(256)).ldh(0x54, chance.below(256));
        rom.ldh(0x55, chance.of(chance.below(8), 0x80 | chance.below(16), 0x80 | chance.below(128)));
        if (chance.one(3)) {
            rom.nops(chance.below(60)).ldh(0x55, chance.below(256) & 0x8F);
        }
        if (chance.one(3)) {
            rom.code(0xF0, 0x55, 0xE0, 0x88);
        }
    }

    private void cartridge() {
        int address = chance.of(0x0000, 0x0100, 0x2000, 0x2100, 0x3000, 0x4000, 0x4000, 0x6000) + chance.below(256);
        rom.poke(address, chance.of(0, 1, 2, 3, 8, 9, 10, 10, 12, 0x1A, chance.below(256)));
        switch (chance.below(6)) {
            case 0 -> rom.poke(0x0000, 10).poke(0xA000 + chance.below(64), chance.below(256));
            case 1 -> rom.poke(0x6000, 0).poke(0x6000, 1);
            case 2 -> rom.peek(0x4080 + chance.below(20), 0x80 + chance.below(16));
            case 3 -> rom.peek(0xA000 + chance.below(64), 0x80 + chance.below(16));
            default -> {
            }
        }
    }
}
