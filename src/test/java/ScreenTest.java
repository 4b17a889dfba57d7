import java.util.NoSuchElementException;
import java.util.Random;

/** Promises 9, 13 pixel and 14 picture: modes, lines, STAT, and pictures of standing scenes. */
public final class ScreenTest {
    public static void main(String[] args) {
        wrongInputs();
        modesOfALine();
        fineScrollMovesMode0();
        lines();
        lineAskedFor();
        statLine();
        statLineRisesOnce();
        screenOff();
        blockedMemory();
        pixelsAreDrawnOneByOne();
        windowCounts();
        scenes();
        Checks.end("ScreenTest");
    }

    private static void wrongInputs() {
        HandheldPair x = new Rom().start();
        int[][] out = {{-1, 0}, {160, 0}, {0, -1}, {0, 144}, {Integer.MAX_VALUE, 0}, {0, Integer.MIN_VALUE}};
        for (int[] o : out) {
            Checks.dueThrow("pixel", IndexOutOfBoundsException.class, () -> x.pixel(0, o[0], o[1]));
            Checks.dueThrow("pixel, OFF", IndexOutOfBoundsException.class, () -> x.pixel(1, o[0], o[1]));
            Checks.dueThrow("pixel, no console", NoSuchElementException.class, () -> x.pixel(2, o[0], o[1]));
        }
        Checks.dueThrow("picture", NoSuchElementException.class, () -> x.picture(2));
        Checks.dueThrow("picture", NoSuchElementException.class, () -> x.picture(-1));
        Checks.due("pixel", x.pixel(0, 159, 143), 0);
    }

    private static int mode(HandheldPair x) {
        return x.memory(0, 0xFF41) & 3;
    }

    private static void modesOfALine() {
        // HALT without anything allowed: steps of four DOTS from the start on.
        HandheldPair x = new Rom().put(0x100, 0x76).start();
        Checks.due("at first", mode(x), 0);
        for (int dots = 4; dots <= 2 * 456; dots += 4) {
            if (dots == 460) {
                x = new Rom().put(0x100, 0x76).start();
                x.run(456);
            }
            x.run(4);
            int last = (dots - 1) % 456;
            Checks.due("mode at " + dots, mode(x), last < 80 ? 2 : last < 252 ? 3 : 0);
            Checks.due("dot at " + dots, x.about(0, 14), dots % 456);
            if (dots == 456) {
                Checks.due("LY", x.memory(0, 0xFF44), 1);
            }
        }
    }

    private static void fineScrollMovesMode0() {
        for (int scx = 0; scx < 16; scx++) {
            HandheldPair x = new Rom().ldh(0x43, scx).code(0x76).start();
            int begins = 252 + (scx & 7);
            x.run(begins / 4 * 4);
            Checks.due("mode 3", mode(x), 3);
            x.run(4);
            Checks.due("mode 0", mode(x), 0);
        }
    }

    private static void lines() {
        HandheldPair x = null;
        for (int line = 1; line <= 160; line++) {
            if (line % 80 == 1) {
                x = new Rom().ldh(0x0F, 0).ldh(0x45, 9).code(0x76).start();
                Go.toTime(x, (line - 1) * 456);
            }
            x.run(456);
            int ly = line % 154;
            Checks.due("LY", x.memory(0, 0xFF44), ly);
            Checks.due("STAT", x.memory(0, 0xFF41) & 7, (ly == 9 ? 4 : 0) | (ly > 144 || ly == 0 ? 1 : 0));
            Checks.due("IF", x.memory(0, 0xFF0F) & 1, line > 144 ? 1 : 0);
        }
    }

    private static void lineAskedFor() {
        HandheldPair x = new Rom().ldh(0x0F, 0).code(0x76).start();
        x.run(65664);
        Checks.due("LY 144", x.memory(0, 0xFF44), 144);
        Checks.due("not yet", x.memory(0, 0xFF0F), 0xE0);
        Checks.due("mode 0", mode(x), 0);
        x.run(4);
        Checks.due("interrupt 0", x.memory(0, 0xFF0F), 0xE1);
        Checks.due("mode 1", mode(x), 1);
        x.run(10 * 456);
        Checks.due("mode 2", mode(x), 2);
    }

    /** IF has bit 1 for the first time behind so many DOTS, or, if they are 0, never. */
    private static void dueStat(String what, int stat, int lyc, int dots) {
        HandheldPair x = new Rom().ldh(0x45, lyc).ldh(0x41, stat).ldh(0x0F, 0).code(0x76).start();
        Go.toTime(x, dots == 0 ? 150000 : dots - 4);
        Checks.due(what + ": not yet", x.memory(0, 0xFF0F) & 2, 0);
        x.run(4);
        Checks.due(what, x.memory(0, 0xFF0F) & 2, dots == 0 ? 0 : 2);
    }

    private static void statLine() {
        dueStat("mode 0", 0x08, 200, 256);
        dueStat("mode 1", 0x10, 200, 144 * 456 + 4);
        dueStat("mode 2", 0x20, 200, 456 + 4);
        dueStat("LYC, at the end of the line before", 0x40, 5, 5 * 456);
        dueStat("LYC 153", 0x40, 153, 153 * 456);
        dueStat("nothing", 0x07, 5, 0);
        HandheldPair x = new Rom().ldh(0x0F, 0).ldh(0x41, 0x40).stay().start();
        x.run(56);
        Checks.due("behind a write of STAT", x.memory(0, 0xFF0F), 0xE2);
        HandheldPair y = new Rom().ldh(0x45, 9).ldh(0x0F, 0).ldh(0x41, 0x40).ldh(0x45, 0).stay().start();
        y.run(76);
        Checks.due("LY is not LYC", y.memory(0, 0xFF0F), 0xE0);
        y.run(20);
        Checks.due("behind a write of LYC", y.memory(0, 0xFF0F), 0xE2);
    }

    private static void statLineRisesOnce() {
        // LY is LYC holds the line up through mode 0: it rises just once.
        HandheldPair x = new Rom().ldh(0x45, 0).ldh(0x41, 0x48).ldh(0x0F, 0).code(0x76).start();
        x.run(456);
        Checks.due("no rise in line 0", x.memory(0, 0xFF0F), 0xE0);
        x.run(256);
        Checks.due("it rises in line 1", x.memory(0, 0xFF0F), 0xE2);
    }

    private static void screenOff() {
        HandheldPair x = new Rom(0x800).ldh(0x0F, 0).ldh(0x45, 3).nops(400).ldh(0x40, 0x11).ldh(0x41, 0x48).nops(200).ldh(0x40, 0x91).code(0x76).start();
        x.run(56 + 1600 + 20);
        Checks.due("LY", x.memory(0, 0xFF44), 0);
        Checks.due("dot", x.about(0, 14), 0);
        Checks.due("STAT", x.memory(0, 0xFF41), 0x80);
        x.run(800);
        Checks.due("it stands", x.about(0, 14), 0);
        Checks.due("no STAT LINE", x.memory(0, 0xFF0F), 0xE0);
        x.run(40);
        Checks.due("on: mode 0 at first, so that the line rises", x.memory(0, 0xFF0F), 0xE2);
        Checks.due("mode", mode(x), 0);
        Checks.due("dot", x.about(0, 14), 0);
        x.run(4);
        Checks.due("dot", x.about(0, 14), 4);
        Checks.due("mode", mode(x), 2);
    }

    private static void blockedMemory() {
        HandheldPair x = new Rom().ldh(0x40, 0).poke(0x8000, 0x12).poke(0xFE00, 0x34).ldh(0x40, 0x91).code(0x76).start();
        x.run(16 + 20 + 24 + 24 + 20 + 4);
        long begin = x.time(0) - 4;
        for (int i = 0; i < 60; i++) {
            int mode = mode(x);
            Checks.due("VIDEO in mode " + mode, x.memory(0, 0x8000), mode == 3 ? 255 : 0x12);
            Checks.due("sprites in mode " + mode, x.memory(0, 0xFE00), mode >= 2 ? 255 : 0x34);
            Checks.due("none in mode " + mode, x.memory(0, 0xFEA0), 0);
            x.run(8);
        }
        Checks.due("TIME", x.time(0), begin + 4 + 480);
        // The write to VIDEO falls into mode 3, the one to sprites into mode 2.
        HandheldPair y = new Rom().poke(0xFE00, 1).poke(0xC000, 2).poke(0xC000, 3).poke(0x8000, 4).nops(40).poke(0x8001, 5).poke(0xFE01, 6).stay().start();
        y.run(400);
        Checks.due("mode", mode(y), 0);
        Checks.due("sprites, blocked", y.memory(0, 0xFE00), 0);
        Checks.due("VIDEO, blocked", y.memory(0, 0x8000), 0);
        Checks.due("VIDEO", y.memory(0, 0x8001), 5);
        Checks.due("sprites", y.memory(0, 0xFE01), 6);
    }

    private static void pixelsAreDrawnOneByOne() {
        // BGP changes what is drawn from the next DOT on; colour 0 everywhere.
        HandheldPair x = new Rom(0x800).nops(25).ldh(0x47, 0x02).nops(13).ldh(0x47, 0x01).nops(300).stay().start();
        // The writes end at 136 and 208: pixels drawn at dots 92 to 135, then to 207, then on.
        x.run(1000);
        int[][] want = {{0, 0}, {43, 0}, {44, 2}, {115, 2}, {116, 1}, {159, 1}};
        for (int[] w : want) {
            Checks.due("pixel " + w[0], x.pixel(0, w[0], 0), w[1]);
        }
        for (int scx = 0; scx < 16; scx++) {
            int fine = scx & 7;
            HandheldPair y = new Rom().ldh(0x43, scx).nops(20).ldh(0x47, 0x02).nops(30).ldh(0x47, 0x01).nops(30).stay().start();
            y.run(450);
            Checks.due("fine scroll: the first of shade 2", y.pixel(0, 44 - fine, 0), 2);
            Checks.due("fine scroll: the one before", y.pixel(0, 43 - fine, 0), 0);
        }
        int sum = 0;
        for (int i = 0; i < 160 * 144; i++) {
            int line = i / 160;
            int px = i % 160;
            int shade = line == 0 ? (px < 44 ? 0 : px < 116 ? 2 : 1) : line == 1 && px < 452 ? 1 : 0;
            if (line == 2) {
                // TIME is 1,000 or a little more: dot 88 or more of line 2, nothing drawn before 92.
                shade = px < x.about(0, 14) - 92 ? 1 : 0;
            }
            sum = sum * 31 + shade;
        }
        Checks.due("picture", x.picture(0), sum);
    }

    private static void windowCounts() {
        HandheldPair x = new Rom().ldh(0x4A, 2).ldh(0x4B, 166).ldh(0x40, 0xB1).code(0x76).start();
        for (int line = 1; line < 160; line++) {
            x.run(456);
            // One DOT of the line is not yet done: WINDOW is as behind the line before.
            int ly = (line - 1) % 154;
            Checks.due("WINDOW in line " + ly, x.about(0, 15), ly < 144 ? Math.max(0, ly - 2) : 0);
        }
        HandheldPair y = new Rom().ldh(0x4A, 0).ldh(0x4B, 167).ldh(0x40, 0xB1).code(0x76).start();
        y.run(456 * 10);
        Checks.due("no pixel of the window", y.about(0, 15), 0);
        HandheldPair z = new Rom().ldh(0x4A, 0).ldh(0x4B, 7).ldh(0x40, 0xB0).code(0x76).start();
        z.run(456 * 10);
        Checks.due("without bit 0 it counts all the same", z.about(0, 15), 9);
        // In line 0 the window is left behind dot 156, in line 1 it never comes.
        HandheldPair w = new Rom().ldh(0x4A, 0).ldh(0x4B, 7).ldh(0x40, 0xB1).nops(15).ldh(0x40, 0x91).code(0x76).start();
        w.run(456 * 2);
        Checks.due("one pixel of the window is enough", w.about(0, 15), 1);
        w.run(456 * 5);
        Checks.due("lines without it do not count", w.about(0, 15), 1);
    }

    /** A loop that fills VIDEO by a rule that the test knows: seed, then 5 * d + 17, mixed with the address. */
    private static Rom fillVideo(Rom rom, int seed) {
        return rom.code(0x21, 0x00, 0x80, 0x16, seed)
            .code(0x7A, 0x87, 0x87, 0x82, 0xC6, 0x11, 0x57, 0xAC, 0x22, 0x7C, 0xFE, 0xA0, 0x20, 0xF2);
    }

    private static int[] filledVideo(int seed) {
        int[] bytes = new int[0x2000];
        int d = seed;
        for (int i = 0; i < bytes.length; i++) {
            d = 5 * d + 17 & 255;
            bytes[i] = d ^ 0x80 + (i >> 8);
        }
        return bytes;
    }

    private static void scenes() {
        Random random = new Random(41);
        for (int scene = 0; scene < 40; scene++) {
            Scene s = new Scene(random, scene % 2 == 1);
            HandheldPair x = s.rom().start();
            for (int i = 0; i < 21 + (s.colour ? 8 : 0); i++) {
                x.run(80000);
            }
            int sum = 0;
            for (int i = 0; i < 160 * 144; i++) {
                sum = sum * 31 + s.pixel(i % 160, i / 160);
            }
            Checks.due("picture of scene " + scene, x.picture(0), sum);
            for (int i = 0; i < 100; i++) {
                int px = random.nextInt(160);
                int py = random.nextInt(144);
                Checks.due("scene " + scene + ", " + px + ", " + py, x.pixel(0, px, py), s.pixel(px, py));
            }
        }
    }

    /** A scene that stands: its registers, its memory, and what its pixels must be. */
    private static final class Scene {
        final boolean colour;
        final int lcdc;
        final int[] r = new int[12];
        final int[] sprites = new int[160];
        final int[] colours = new int[128];
        final int[][] video = new int[2][];
        final int seed;
        final int[] windowLines = new int[144];

        Scene(Random random, boolean inColour) {
            colour = inColour;
            lcdc = 0x80 | random.nextInt(128);
            for (int i = 2; i < 12; i++) {
                r[i] = random.nextInt(256);
            }
            r[10] = random.nextInt(200);
            r[11] = random.nextInt(180);
            for (int i = 0; i < 160; i++) {
                sprites[i] = random.nextInt(256);
            }
            for (int i = 0; i < 160; i += 4) {
                // Many in few lines, so that some lines have more than ten.
                sprites[i] = i % 8 == 0 ? random.nextInt(176) : 60 + random.nextInt(24);
                sprites[i + 1] = i % 12 == 0 ? 80 : random.nextInt(176);
            }
            for (int i = 0; i < 128; i++) {
                colours[i] = random.nextInt(256);
            }
            seed = random.nextInt(256);
            video[0] = filledVideo(seed);
            video[1] = filledVideo(seed ^ 0x5B);
            int window = 0;
            for (int line = 0; line < 144; line++) {
                windowLines[line] = window;
                if ((lcdc & 32) != 0 && line >= r[10] && 166 >= r[11]) {
                    window++;
                }
            }
        }

        Rom rom() {
            Rom rom = new Rom(0xA00);
            rom.put(0x800, sprites).put(0x900, colours);
            if (colour) {
                rom.colour();
            }
            rom.ldh(0x40, 0);
            if (colour) {
                rom.ldh(0x4F, 1);
                fillVideo(rom, seed ^ 0x5B).ldh(0x4F, 0).ldh(0x68, 0x80).ldh(0x6A, 0x80);
                rom.code(0x21, 0x00, 0x09, 0x06, 0x40, 0x2A, 0xE0, 0x69, 0x05, 0x20, 0xFA);
                rom.code(0x06, 0x40, 0x2A, 0xE0, 0x6B, 0x05, 0x20, 0xFA);
            }
            fillVideo(rom, seed).copyLoop(0x800, 0xFE00, 160);
            for (int i = 2; i < 12; i++) {
                if (i != 4 && i != 6) {
                    rom.ldh(0x40 + i, r[i]);
                }
            }
            return rom.ldh(0x40, lcdc).stay();
        }

        int tilePixel(int bank, int address, int column) {
            int first = video[bank][address - 0x8000];
            int second = video[bank][address + 1 - 0x8000];
            return (first << column & 128) / 128 + (second << column & 128) / 64;
        }

        int word(int base, int palette, int c) {
            int at = base + 8 * palette + 2 * c;
            return (colours[at] + 256 * colours[at + 1]) % 32768;
        }

        int pixel(int x, int y) {
            boolean window = (lcdc & 32) != 0 && y >= r[10] && x + 7 >= r[11];
            int u = window ? x + 7 - r[11] : (x + r[3]) % 256;
            int v = window ? windowLines[y] : (y + r[2]) % 256;
            boolean second = (lcdc & (window ? 64 : 8)) != 0;
            int place = (second ? 0x9C00 : 0x9800) + v / 8 * 32 + u / 8;
            int t = video[0][place - 0x8000];
            int a = colour ? video[1][place - 0x8000] : 0;
            int line = (a & 64) != 0 ? 7 - v % 8 : v % 8;
            int column = (a & 32) != 0 ? 7 - u % 8 : u % 8;
            int tile = (lcdc & 16) != 0 ? 0x8000 + 16 * t : t < 128 ? 0x9000 + 16 * t : 0x8000 + 16 * t;
            int c = tilePixel(a / 8 % 2, tile + 2 * line, column);
            boolean blank = !colour && (lcdc & 1) == 0;
            c = blank ? 0 : c;
            int back = colour ? word(0, a % 8, c) : blank ? 0 : r[7] >> 2 * c & 3;
            int sprite = spriteFor(x, y);
            if (sprite < 0) {
                return back;
            }
            int sa = sprites[sprite + 3];
            boolean behind = c != 0 && ((sa | a) & 128) != 0 && (!colour || (lcdc & 1) != 0);
            int sc = spriteColour(sprite, x, y);
            int front = colour ? word(64, sa % 8, sc) : r[(sa & 16) != 0 ? 9 : 8] >> 2 * sc & 3;
            return behind ? back : front;
        }

        int spriteFor(int x, int y) {
            int best = -1;
            int found = 0;
            int height = (lcdc & 4) != 0 ? 16 : 8;
            for (int i = 0; i < 160 && found < 10; i += 4) {
                if (y < sprites[i] - 16 || y >= sprites[i] - 16 + height) {
                    continue;
                }
                found++;
                boolean here = x >= sprites[i + 1] - 8 && x < sprites[i + 1];
                if ((lcdc & 2) != 0 && here && spriteColour(i, x, y) != 0) {
                    boolean better = best < 0 || (!colour && sprites[i + 1] < sprites[best + 1]);
                    best = better ? i : best;
                }
            }
            return best;
        }

        int spriteColour(int i, int x, int y) {
            int height = (lcdc & 4) != 0 ? 16 : 8;
            int line = y - sprites[i] + 16;
            line = (sprites[i + 3] & 64) != 0 ? height - 1 - line : line;
            int column = x - sprites[i + 1] + 8;
            column = (sprites[i + 3] & 32) != 0 ? 7 - column : column;
            int tile = height == 16 ? sprites[i + 2] / 2 * 2 + line / 8 : sprites[i + 2];
            return tilePixel(colour ? sprites[i + 3] / 8 % 2 : 0, 0x8000 + 16 * tile + 2 * (line % 8), column);
        }
    }
}
