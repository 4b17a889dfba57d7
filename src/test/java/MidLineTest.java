/** Promises 13 and 14: a pixel is drawn by all as it is then: what changes in the midst of a line counts from there on. */
public final class MidLineTest {
    private static final int LINE = 456;

    public static void main(String[] args) {
        scrollAcross();
        scrollDown();
        shades();
        backgroundBits();
        windowBits();
        windowPlace();
        windowLater();
        windowLines();
        spriteBit();
        spriteShades();
        spriteBytesByCopy();
        tileByBlock();
        attributesByBlock();
        shadesAreNotOfColour();
        Checks.end("MidLineTest");
    }

    /** The scene is turned on, and in line 0 a register is written that pixel 80 is the first to see. */
    private static HandheldPair written(Stage stage, int lcdc, int low, int v) {
        HandheldPair x = stage.rom.ldh(0x40, lcdc).spend(172 - 20).ldh(low, v).code(0x76).start();
        x.run(60000);
        return x;
    }

    private static void dueRow(String what, HandheldPair x, int from, int to, int want) {
        for (int px = from; px <= to; px++) {
            Stage.due(what, x, px, 0, want);
        }
    }

    /** SCX: all its bits count at once, though where the pixels begin was set at dot 80. */
    private static void scrollAcross() {
        // Tile 2 has colour 1 in its first column alone.
        HandheldPair x = written(new Stage(false).video(0x8020, 0x80, 0).fill(0x9800, 2, 32), 0x91, 0x43, 3);
        for (int px = 40; px < 130; px++) {
            Stage.due("SCX 0, then 3", x, px, 0, (px < 80 ? px : px + 3) % 8 == 0 ? 1 : 0);
        }
        HandheldPair y = written(new Stage(false).video(0x980B, 1), 0x91, 0x43, 8);
        dueRow("SCX 0", y, 72, 79, 0);
        dueRow("SCX 8", y, 80, 87, 3);
        dueRow("SCX 8", y, 88, 95, 0);
    }

    private static void scrollDown() {
        HandheldPair x = written(new Stage(false).fill(0x9820, 1, 32), 0x91, 0x42, 8);
        dueRow("SCY 0", x, 70, 79, 0);
        dueRow("SCY 8", x, 80, 159, 3);
        HandheldPair y = written(new Stage(false).video(0x8022, 255, 0).fill(0x9800, 2, 32), 0x91, 0x42, 1);
        dueRow("SCY 0", y, 70, 79, 0);
        dueRow("SCY 1", y, 80, 159, 1);
    }

    private static void shades() {
        HandheldPair x = written(new Stage(false), 0x91, 0x47, 0x1B);
        dueRow("BGP $E4", x, 70, 79, 0);
        dueRow("BGP $1B", x, 80, 159, 3);
    }

    /** LCDC's bits 0, 3, 4: what is shown, the map, the tiles. */
    private static void backgroundBits() {
        int[][] cases = {{0x91, 0x90, 3, 0}, {0x90, 0x91, 0, 3}, {0x91, 0x99, 3, 0}, {0x99, 0x91, 0, 3}, {0x91, 0x81, 3, 0}, {0x81, 0x91, 0, 3}};
        for (int[] c : cases) {
            HandheldPair x = written(new Stage(false).fill(0x9800, 1, 32), c[0], 0x40, c[1]);
            String what = "LCDC " + Integer.toHexString(c[0]) + ", then " + Integer.toHexString(c[1]);
            dueRow(what, x, 0, 79, c[2]);
            dueRow(what, x, 80, 159, c[3]);
        }
    }

    /** LCDC's bits 5 and 6: whether there is a window, and its map. */
    private static void windowBits() {
        int[][] cases = {{0xD1, 0xF1, 0, 3}, {0xF1, 0xD1, 3, 0}, {0xF1, 0xB1, 3, 0}, {0xB1, 0xF1, 0, 3}};
        for (int[] c : cases) {
            HandheldPair x = written(new Stage(false).fill(0x9C00, 1, 32).register(0x4B, 7), c[0], 0x40, c[1]);
            String what = "LCDC " + Integer.toHexString(c[0]) + ", then " + Integer.toHexString(c[1]);
            dueRow(what, x, 70, 79, c[2]);
            dueRow(what, x, 80, 159, c[3]);
        }
    }

    /** WX and WY: u is of the WX of then. */
    private static void windowPlace() {
        int[][] cases = {{0x4B, 200, 50, 0, 3}, {0x4B, 7, 200, 3, 0}, {0x4A, 1, 0, 0, 3}, {0x4A, 0, 1, 3, 0}};
        for (int[] c : cases) {
            HandheldPair x = written(new Stage(false).fill(0x9C00, 1, 32).register(0x4B, 7).register(c[0], c[1]), 0xF1, c[0], c[2]);
            String what = Integer.toHexString(c[0]) + " is " + c[1] + ", then " + c[2];
            dueRow(what, x, 70, 79, c[3]);
            dueRow(what, x, 80, 159, c[4]);
        }
        // Tile 2 has colour 1 in its first column alone.
        HandheldPair x = written(new Stage(false).video(0x8020, 0x80, 0).fill(0x9C00, 2, 32).register(0x4B, 7), 0xF1, 0x4B, 10);
        for (int px = 40; px < 130; px++) {
            Stage.due("WX 7, then 10", x, px, 0, (px < 80 ? px : px - 3) % 8 == 0 ? 1 : 0);
        }
    }

    /** LY not below WY: it need not have been WY. From line 50 on WY is 10, from line 60 on 100. */
    private static void windowLater() {
        Rom rom = new Stage(false).fill(0x9C00, 1, 64).register(0x4A, 200).register(0x4B, 7).rom;
        HandheldPair x = rom.ldh(0x40, 0xF1).spend(50 * LINE - 20).ldh(0x4A, 10).spend(10 * LINE - 20).ldh(0x4A, 100).code(0x76).start();
        x.run(50000);
        int[][] want = {{9, 0}, {10, 0}, {49, 0}, {50, 3}, {59, 3}, {60, 0}, {70, 0}};
        for (int[] w : want) {
            Stage.due("line", x, 80, w[0], w[1]);
        }
        Checks.due("ten lines had it", x.about(0, 15), x.memory(0, 0xFF44) < 100 ? 10 : 10 + x.memory(0, 0xFF44) - 100);
    }

    /** v = WINDOW, the lines that had it: on in lines 0 to 7, off in 8 to 15, on again. */
    private static void windowLines() {
        // Of the map's rows the second has tile 1, with colour 3; the others have tile 0.
        Rom rom = new Stage(false).fill(0x9C20, 1, 32).register(0x4B, 7).rom;
        HandheldPair x = rom.ldh(0x40, 0xF1).spend(8 * LINE - 20).ldh(0x40, 0xD1).spend(8 * LINE - 20).ldh(0x40, 0xF1).code(0x76).start();
        x.run(50000);
        int[][] want = {{0, 0}, {7, 0}, {8, 0}, {15, 0}, {16, 3}, {23, 3}, {24, 0}, {31, 0}};
        for (int[] w : want) {
            Stage.due("line", x, 100, w[0], w[1]);
        }
        // One pixel of the window makes WINDOW one more: WX 166 in each odd line alone.
        Rom odd = new Stage(false).fill(0x9C20, 1, 32).register(0x4B, 167).rom.ldh(0x40, 0xF1);
        for (int i = 0; i < 8; i++) {
            odd.spend(LINE - 20).ldh(0x4B, 166).spend(LINE - 20).ldh(0x4B, 167);
        }
        HandheldPair y = odd.ldh(0x4B, 7).code(0x76).start();
        y.run(50000);
        int line = y.memory(0, 0xFF44);
        Checks.due("WINDOW", y.about(0, 15), line - 16 + 8);
        Stage.due("line 16 is its line 8", y, 100, 16, 3);
        Stage.due("line 23 is its line 15", y, 100, 23, 3);
        Stage.due("line 24 is its line 16", y, 100, 24, 0);
    }

    /** Sprite 0 is drawn at 76 to 83. */
    private static void spriteBit() {
        HandheldPair off = written(new Stage(false).sprite(0, 16, 84, 1, 0), 0x93, 0x40, 0x91);
        dueRow("LCDC bit 1", off, 76, 79, 3);
        dueRow("clear", off, 80, 83, 0);
        HandheldPair on = written(new Stage(false).sprite(0, 16, 84, 1, 0), 0x91, 0x40, 0x93);
        dueRow("LCDC bit 1 clear", on, 76, 79, 0);
        dueRow("set", on, 80, 83, 3);
    }

    private static void spriteShades() {
        HandheldPair first = written(new Stage(false).sprite(0, 16, 84, 1, 0), 0x93, 0x48, 0x40);
        dueRow("OBP0 $E4", first, 76, 79, 3);
        dueRow("OBP0 $40", first, 80, 83, 1);
        HandheldPair second = written(new Stage(false).sprite(0, 16, 84, 1, 0x10), 0x93, 0x49, 0x80);
        dueRow("OBP1 $1B", second, 76, 79, 0);
        dueRow("OBP1 $80", second, 80, 83, 2);
        HandheldPair other = written(new Stage(false).sprite(0, 16, 84, 1, 0), 0x93, 0x49, 0xFF);
        dueRow("OBP1 is not its own", other, 76, 83, 3);
    }

    /**
     * A COPY changes the sprites' memory while the line is drawn: byte 0 from pixel 76 on, 1 from
     * 80, 2 from 84, 3 from 88. The sprite was chosen at dot 80 and stays so.
     */
    private static void spriteBytesByCopy() {
        // Tile 1 has colour 3, in its line 7 colour 1; tile 2 has colour 2.
        Stage stage = new Stage(false).video(0x801F, 0).fill(0x8020, 0, 16).video(0x8021, 255).video(0x802F, 255).sprite(0, 16, 80, 1, 0);
        stage.video(0xC000, 17, 92, 2, 0x10);
        HandheldPair x = stage.rom.ldh(0x40, 0x93).spend(164 - 20).ldh(0x46, 0xC0).code(0x76).start();
        x.run(60000);
        dueRow("as it was chosen: line 0", x, 72, 75, 3);
        dueRow("Y is 17: line -1 modulo 8", x, 76, 79, 1);
        dueRow("X is 92", x, 80, 83, 0);
        dueRow("tile 2, line 7, OBP0", x, 84, 87, 2);
        dueRow("OBP1", x, 88, 91, 1);
        dueRow("behind it", x, 92, 100, 0);
    }

    /** BLOCK is not blocked by the screen: tile 1 is cleared while the line is drawn. */
    private static void tileByBlock() {
        Stage stage = new Stage(true).colour(0x68, 0, 0x0111).colour(0x68, 3, 0x0222).fill(0x9800, 1, 32)
            .register(0x51, 0x1F).register(0x52, 0).register(0x53, 0).register(0x54, 0x10);
        HandheldPair x = written(stage, 0x91, 0x55, 0x00);
        dueRow("tile 1", x, 60, 79, 0x0222);
        dueRow("cleared", x, 80, 159, 0x0111);
    }

    /** The attributes of the map's columns 0 to 15 are changed in bank 1, those of the others not. */
    private static void attributesByBlock() {
        Stage stage = new Stage(true).colour(0x68, 3, 0x0333).colour(0x68, 4 * 5 + 3, 0x0555).fill(0x9800, 1, 32)
            .register(0x51, 0x1F).register(0x52, 0).register(0x53, 0x18).register(0x54, 0).register(0x4F, 1);
        stage.rom.put(0x1F00, 5, 5, 5, 5, 5, 5, 5, 5, 5, 5, 5, 5, 5, 5, 5, 5);
        HandheldPair x = written(stage, 0x91, 0x55, 0x00);
        dueRow("attributes 0", x, 60, 79, 0x0333);
        dueRow("attributes 5", x, 80, 127, 0x0555);
        dueRow("attributes 0", x, 128, 159, 0x0333);
    }

    /** With COLOUR neither BGP nor OBP0 and OBP1 say anything. */
    private static void shadesAreNotOfColour() {
        int[] palettes = {0x00, 0xE4, 0xFF};
        for (int palette : palettes) {
            Stage stage = new Stage(true).register(0x47, palette).register(0x48, palette).register(0x49, palette)
                .colour(0x68, 0, 0x0123).colour(0x68, 3, 0x0456).colour(0x6A, 3, 0x0789).colour(0x6A, 7, 0x0ABC)
                .video(0x9800, 1).sprite(0, 16, 40, 1, 0).sprite(1, 16, 60, 1, 0x11);
            HandheldPair x = stage.shown(0x93);
            Stage.due("background", x, 0, 0, 0x0456);
            Stage.due("background of colour 0", x, 8, 0, 0x0123);
            Stage.due("sprite", x, 32, 0, 0x0789);
            Stage.due("sprite with bit 4", x, 52, 0, 0x0ABC);
        }
    }
}
