/** Promises 13 and 14: sprites at the screen's borders, the tenth and the eleventh, and which of several shows. */
public final class SpriteEdgeTest {
    public static void main(String[] args) {
        aboveAndBelow();
        aboveAndBelowSixteenHigh();
        leftAndRight();
        needTheirBit();
        tenOfALine();
        tenWhateverTheirX();
        tenOfALineOnly();
        leastXThenFirst();
        firstWithColour();
        colourZeroLetsTheNextShow();
        behindTheBackground();
        behindWithColour();
        turned();
        turnedSixteenHigh();
        evenTileOfTwo();
        paletteOfShades();
        paletteOfColours();
        bankWithColour();
        withoutBackground();
        heightChangesMidway();
        lastOfForty();
        Checks.end("SpriteEdgeTest");
    }

    /** Y - 16 .. Y - 9 holding LY. */
    private static void aboveAndBelow() {
        int[][] cases = {{16, 0, 7}, {9, 0, 0}, {8, 1, 0}, {0, 1, 0}, {15, 0, 6}, {152, 136, 143}, {159, 143, 143}, {160, 1, 0}, {255, 1, 0}, {80, 64, 71}};
        for (int[] c : cases) {
            HandheldPair x = new Stage(false).sprite(0, c[0], 20, 1, 0).shown(0x93);
            if (c[1] > c[2]) {
                Checks.due("Y " + c[0] + ": none", x.picture(0), 0);
                continue;
            }
            Stage.due("Y " + c[0] + ", its first line", x, 12, c[1], 3);
            Stage.due("Y " + c[0] + ", its last line", x, 19, c[2], 3);
            if (c[1] > 0) {
                Stage.due("Y " + c[0] + ", above", x, 12, c[1] - 1, 0);
            }
            if (c[2] < 143) {
                Stage.due("Y " + c[0] + ", below", x, 12, c[2] + 1, 0);
            }
        }
    }

    /** LCDC bit 2: Y - 16 .. Y - 1. */
    private static void aboveAndBelowSixteenHigh() {
        int[][] cases = {{16, 0, 15}, {1, 0, 0}, {0, 1, 0}, {2, 0, 1}, {144, 128, 143}, {159, 143, 143}, {160, 1, 0}};
        for (int[] c : cases) {
            HandheldPair x = new Stage(false).fill(0x8020, 255, 32).sprite(0, c[0], 20, 2, 0).shown(0x97);
            if (c[1] > c[2]) {
                Checks.due("Y " + c[0] + ": none", x.picture(0), 0);
                continue;
            }
            Stage.due("Y " + c[0] + ", its first line", x, 12, c[1], 3);
            Stage.due("Y " + c[0] + ", its last line", x, 12, c[2], 3);
            if (c[2] < 143) {
                Stage.due("Y " + c[0] + ", below", x, 12, c[2] + 1, 0);
            }
        }
    }

    /** X - 8 .. X - 1 holding x. */
    private static void leftAndRight() {
        int[][] cases = {{8, 0, 7}, {1, 0, 0}, {0, 1, 0}, {7, 0, 6}, {160, 152, 159}, {167, 159, 159}, {168, 1, 0}, {255, 1, 0}};
        for (int[] c : cases) {
            HandheldPair x = new Stage(false).sprite(0, 16, c[0], 1, 0).shown(0x93);
            if (c[1] > c[2]) {
                Checks.due("X " + c[0] + ": none", x.picture(0), 0);
                continue;
            }
            Stage.due("X " + c[0] + ", its first column", x, c[1], 0, 3);
            Stage.due("X " + c[0] + ", its last column", x, c[2], 0, 3);
            if (c[1] > 0) {
                Stage.due("X " + c[0] + ", left of it", x, c[1] - 1, 0, 0);
            }
            if (c[2] < 159) {
                Stage.due("X " + c[0] + ", right of it", x, c[2] + 1, 0, 0);
            }
        }
        // Tile 2 has its last column alone, tile 3 its first: X 1 shows column 7, X 167 column 0.
        HandheldPair x = new Stage(false).fill(0x8020, 1, 16).fill(0x8030, 128, 16).sprite(0, 16, 1, 2, 0).sprite(1, 16, 167, 3, 0).shown(0x93);
        Stage.due("column 7 at the left", x, 0, 0, 3);
        Stage.due("column 0 at the right", x, 159, 0, 3);
    }

    private static void needTheirBit() {
        Checks.due("LCDC bit 1", new Stage(false).sprite(0, 16, 8, 1, 0).shown(0x91).picture(0), 0);
    }

    private static Stage row(int n, int y) {
        Stage stage = new Stage(false);
        for (int k = 0; k < n; k++) {
            stage.sprite(k, y, 10 + 10 * k, 1, 0);
        }
        return stage;
    }

    /** The first ten of forty. */
    private static void tenOfALine() {
        HandheldPair x = row(12, 16).shown(0x93);
        for (int k = 0; k < 12; k++) {
            Stage.due("sprite " + k, x, 2 + 10 * k, 0, k < 10 ? 3 : 0);
            Stage.due("sprite " + k, x, 2 + 10 * k, 7, k < 10 ? 3 : 0);
        }
    }

    /** They are chosen by their lines alone: ten that are left or right of the screen take all places. */
    private static void tenWhateverTheirX() {
        Stage hidden = new Stage(false);
        for (int k = 0; k < 9; k++) {
            hidden.sprite(k, 16, k % 2 == 0 ? 0 : 168, 1, 0);
        }
        HandheldPair x = hidden.sprite(9, 16, 80, 1, 0).sprite(10, 16, 120, 1, 0).shown(0x93);
        Stage.due("the tenth", x, 72, 0, 3);
        Stage.due("the eleventh", x, 112, 0, 0);
    }

    /** Lines that it does not hold do not count. */
    private static void tenOfALineOnly() {
        HandheldPair x = row(10, 16).sprite(10, 23, 120, 1, 0).shown(0x93);
        Stage.due("its first line, in which it is the eleventh", x, 112, 7, 0);
        Stage.due("its second, in which it is the first", x, 112, 8, 3);
    }

    private static Stage tiles(boolean colour) {
        // Tile 2 is of colour 1 all over, tile 3 of colour 2.
        Stage stage = new Stage(colour);
        for (int i = 0; i < 16; i += 2) {
            stage.video(0x8020 + i, 255).video(0x8031 + i, 255);
        }
        return stage;
    }

    /** Else the one of least X, the first of these. */
    private static void leastXThenFirst() {
        HandheldPair x = tiles(false).sprite(0, 16, 21, 2, 0).sprite(1, 16, 20, 3, 0).shown(0x93);
        Stage.due("the one of least X", x, 13, 0, 2);
        Stage.due("where it ends", x, 20, 0, 1);
        HandheldPair y = tiles(false).sprite(0, 16, 20, 2, 0).sprite(1, 16, 20, 3, 0).shown(0x93);
        Stage.due("the first of these", y, 12, 0, 1);
        HandheldPair z = tiles(false).sprite(0, 16, 21, 1, 0).sprite(1, 16, 20, 2, 0).sprite(2, 16, 20, 3, 0).shown(0x93);
        Stage.due("the first of those of least X", z, 15, 0, 1);
    }

    private static void firstWithColour() {
        HandheldPair x = tiles(true).colour(0x6A, 1, 0x11).colour(0x6A, 2, 0x22).sprite(0, 16, 21, 2, 0).sprite(1, 16, 20, 3, 0).shown(0x93);
        Stage.due("the first, whatever X", x, 13, 0, 0x11);
        Stage.due("where it does not stand", x, 12, 0, 0x22);
    }

    /** Of those whose colour is not 0. */
    private static void colourZeroLetsTheNextShow() {
        for (int colour = 0; colour < 2; colour++) {
            // Tile 4 has colour 1 in its left half alone.
            Stage stage = tiles(colour == 1);
            if (colour == 1) {
                stage.colour(0x6A, 1, 1).colour(0x6A, 2, 2);
            }
            for (int i = 0; i < 16; i += 2) {
                stage.video(0x8040 + i, 0xF0);
            }
            HandheldPair x = stage.sprite(0, 16, 20, 4, 0).sprite(1, 16, 22, 3, 0).shown(0x93);
            Stage.due("the left half", x, 15, 0, 1);
            Stage.due("the right half", x, 16, 0, 2);
        }
    }

    /** Unless the background's colour is not 0 and its bit 7. */
    private static void behindTheBackground() {
        for (int attributes = 0; attributes < 256; attributes += 128) {
            // The background's column 1 is of colour 3; the sprite stands over columns 0 and 1.
            HandheldPair x = tiles(false).video(0x9801, 1).sprite(0, 16, 12, 2, attributes).shown(0x93);
            Stage.due("over colour 0", x, 7, 0, 1);
            Stage.due("over colour 3", x, 8, 0, attributes == 0 ? 1 : 3);
        }
        // One that is behind hides those that come after it all the same.
        HandheldPair y = tiles(false).fill(0x9800, 1, 32).sprite(0, 16, 20, 2, 128).sprite(1, 16, 21, 3, 0).shown(0x93);
        Stage.due("the one that is chosen is behind", y, 14, 0, 3);
        Stage.due("the other, where it is alone", y, 20, 0, 2);
    }

    /** Its bit 7, or a bit 7; and (not COLOUR, or LCDC bit 0). */
    private static void behindWithColour() {
        int[][] cases = {{0x93, 0, 0, 1}, {0x93, 128, 0, 0}, {0x93, 0, 128, 0}, {0x93, 128, 128, 0}, {0x92, 128, 0, 1}, {0x92, 0, 128, 1}, {0x92, 128, 128, 1}};
        for (int[] c : cases) {
            HandheldPair x = tiles(true).colour(0x6A, 1, 0x123).colour(0x68, 3, 0x456).video(0x9800, 1).register(0x4F, 1).video(0x9800, c[2]).video(0x9801, c[2]).register(0x4F, 0)
                .sprite(0, 16, 12, 2, c[1]).shown(c[0]);
            String what = "LCDC " + c[0] + ", sprite " + c[1] + ", background " + c[2];
            Stage.due(what, x, 7, 0, c[3] == 1 ? 0x123 : 0x456);
            Stage.due(what + ", over colour 0", x, 8, 0, 0x123);
        }
    }

    /** Turned by bit 5 across, by bit 6 within its height. */
    private static void turned() {
        int[][] cases = {{0x00, 12, 0}, {0x20, 19, 0}, {0x40, 12, 7}, {0x60, 19, 7}};
        for (int[] c : cases) {
            // Tile 4 has one dot at its upper left.
            HandheldPair x = new Stage(false).video(0x8040, 0x80).sprite(0, 16, 20, 4, c[0]).shown(0x93);
            for (int py = 0; py < 8; py += 7) {
                for (int px = 12; px < 20; px += 7) {
                    Stage.due("attributes " + c[0], x, px, py, px == c[1] && py == c[2] ? 1 : 0);
                }
            }
        }
    }

    private static void turnedSixteenHigh() {
        int[][] cases = {{0x00, 0, 12}, {0x40, 15, 12}};
        for (int[] c : cases) {
            // One dot in tile 4's first line, tile 5's last line has another at its right.
            HandheldPair x = new Stage(false).video(0x8040, 0x80).video(0x805E, 0x01).sprite(0, 16, 20, 4, c[0]).shown(0x97);
            Stage.due("the first of 4", x, 12, c[1], 1);
            Stage.due("the last of 5", x, 19, 15 - c[1], 1);
            Stage.due("neither", x, 12, 7, 0);
            Stage.due("neither", x, 12, 8, 0);
        }
    }

    /** 16 high: tile & 254, and the next for lines from 8 on. */
    private static void evenTileOfTwo() {
        for (int tile = 4; tile < 6; tile++) {
            HandheldPair x = new Stage(false).video(0x804E, 0x80).video(0x8050, 0, 0x80).sprite(0, 16, 20, tile, 0).shown(0x97);
            Stage.due("line 7 is of tile 4", x, 12, 7, 1);
            Stage.due("line 8 is of tile 5", x, 12, 8, 2);
        }
        HandheldPair x = new Stage(false).video(0x8FEE, 0x80).video(0x8FFE, 0x80).sprite(0, 16, 20, 255, 0).shown(0x97);
        Stage.due("tile 254", x, 12, 7, 1);
        Stage.due("tile 255", x, 12, 15, 1);
        HandheldPair y = new Stage(false).video(0x8FFE, 0x80).sprite(0, 16, 20, 255, 0).shown(0x93);
        Stage.due("8 high: tile 255", y, 12, 7, 1);
    }

    /** OBP0, OBP1 by bit 4: bits 2 * c, 2 * c + 1. */
    private static void paletteOfShades() {
        for (int attributes = 0; attributes < 32; attributes += 16) {
            // Tile 4's first line has colours 0, 1, 2, 3 from the left.
            HandheldPair x = new Stage(false).video(0x8040, 0x50, 0x30).register(0x48, 0x2D).register(0x49, 0xD2).sprite(0, 16, 20, 4, attributes).shown(0x93);
            int palette = attributes == 0 ? 0x2D : 0xD2;
            Stage.due("colour 0 is none", x, 12, 0, 0);
            for (int c = 1; c < 4; c++) {
                Stage.due("colour " + c, x, 12 + c, 0, palette >> 2 * c & 3);
            }
        }
    }

    private static void paletteOfColours() {
        int[] palettes = {0, 7, 3};
        for (int palette : palettes) {
            // Bit 4 has no meaning with COLOUR.
            HandheldPair x = new Stage(true).colour(0x6A, 4 * palette + 3, 0xFABC).sprite(0, 16, 20, 1, palette | 0x10).shown(0x93);
            Stage.due("15 bits of palette " + palette, x, 12, 0, 0x7ABC);
        }
    }

    /** Bank bit 3 with COLOUR; without, the only one. */
    private static void bankWithColour() {
        HandheldPair x = new Stage(true).colour(0x6A, 3, 0x123).register(0x4F, 1).fill(0x8040, 255, 16).sprite(0, 16, 20, 4, 8).sprite(1, 16, 40, 4, 0).shown(0x93);
        Stage.due("bank 1", x, 12, 0, 0x123);
        Stage.due("bank 0", x, 32, 0, 0x7FFF);
        HandheldPair y = new Stage(false).sprite(0, 16, 20, 1, 8).shown(0x93);
        Stage.due("without COLOUR", y, 12, 0, 3);
    }

    /** LCDC bit 0 clear without COLOUR: the background's colour is 0, so that each sprite shows. */
    private static void withoutBackground() {
        HandheldPair x = tiles(false).fill(0x9800, 1, 32).sprite(0, 16, 20, 2, 128).shown(0x92);
        Stage.due("it shows", x, 12, 0, 1);
        Stage.due("beside it", x, 20, 0, 0);
    }

    /** All by LCDC as it is then: chosen 16 high, drawn 8 high from the middle of line 8 on: its line modulo 8. */
    private static void heightChangesMidway() {
        Stage stage = tiles(false);
        // Tile 4 has colour 1 in its line 0 alone, tile 5 has nothing.
        Rom rom = stage.video(0x8040, 255).sprite(0, 16, 100, 4, 0).rom;
        HandheldPair x = rom.ldh(0x40, 0x97).spend(8 * 456 + 140 - 20).ldh(0x40, 0x93).code(0x76).start();
        Go.toTime(x, 20000);
        Stage.due("line 0", x, 92, 0, 1);
        Stage.due("line 8, drawn 8 high", x, 92, 8, 1);
        HandheldPair y = new Stage(false).video(0x8040, 255).sprite(0, 16, 100, 4, 0).shown(0x97);
        Stage.due("line 8, drawn 16 high", y, 92, 8, 0);
    }

    private static void lastOfForty() {
        HandheldPair x = new Stage(false).sprite(39, 16, 20, 1, 0).shown(0x93);
        Stage.due("the fortieth", x, 12, 0, 3);
        HandheldPair y = row(9, 16).sprite(39, 16, 150, 1, 0).shown(0x93);
        Stage.due("the fortieth, as the tenth", y, 142, 0, 3);
    }
}
