/** Promises 13 and 14: the window's borders, scrolling that wraps, tile numbers' signs, maps' ends, colours' words. */
public final class PictureEdgeTest {
    public static void main(String[] args) {
        windowFromTheLeft();
        windowDoesNotScroll();
        windowToTheRight();
        windowLines();
        windowNeedsItsBit();
        windowHasItsOwnLines();
        scrollWrapsAcross();
        scrollWrapsDown();
        scrollBoth();
        tileNumbers();
        mapsAndTheirEnds();
        turnedTiles();
        noBackground();
        shadesOfAllColours();
        colourWords();
        attributesOfTheLastMap();
        Checks.end("PictureEdgeTest");
    }

    /** The window is of tile 1, by the map at $9C00; the background of tile 0. */
    private static HandheldPair window(int wy, int wx, int lcdc) {
        return new Stage(false).fill(0x9C00, 1, 0).fill(0x9D00, 1, 0).fill(0x9E00, 1, 0).register(0x4A, wy).register(0x4B, wx).shown(lcdc);
    }

    /** x + 7 not below WX. */
    private static void windowFromTheLeft() {
        HandheldPair seven = window(0, 7, 0xF1);
        Stage.due("WX 7", seven, 0, 0, 3);
        Stage.due("WX 7", seven, 159, 143, 3);
        HandheldPair eight = window(0, 8, 0xF1);
        Stage.due("WX 8", eight, 0, 0, 0);
        Stage.due("WX 8", eight, 1, 0, 3);
        HandheldPair six = window(0, 6, 0xF1);
        Stage.due("WX 6", six, 0, 0, 3);
        // Tile 2 has colour 1 in its last column alone: u is x + 7 - WX.
        int[][] cases = {{0, 0, 1}, {0, 1, 3}, {1, 1, 1}, {1, 0, 0}, {6, 6, 1}, {6, 5, 0}, {7, 7, 1}, {7, 8, 3}};
        for (int[] c : cases) {
            HandheldPair x = new Stage(false).video(0x8020, 1, 0).fill(0x9C00, 1, 32).video(0x9C00, 2).register(0x4B, c[0]).shown(0xF1);
            Stage.due("WX " + c[0], x, c[1], 0, c[2]);
        }
    }

    /** u = x + 7 - WX and v = WINDOW: SCX and SCY say nothing of the window, however far left it begins. */
    private static void windowDoesNotScroll() {
        for (int wx = 0; wx < 9; wx++) {
            // Tile 2 has colour 1 in its first column alone.
            Stage stage = new Stage(false).video(0x8020, 0x80, 0).fill(0x9C00, 2, 32).register(0x43, 5).register(0x42, 3).register(0x4B, wx);
            HandheldPair x = stage.shown(0xF1);
            for (int px = 8; px < 40; px++) {
                Stage.due("WX " + wx, x, px, 0, (px + 7 - wx) % 8 == 0 ? 1 : 0);
            }
        }
    }

    private static void windowToTheRight() {
        HandheldPair last = window(0, 166, 0xF1);
        Stage.due("WX 166", last, 158, 0, 0);
        Stage.due("WX 166", last, 159, 0, 3);
        Stage.due("WX 166", last, 159, 143, 3);
        HandheldPair none = window(0, 167, 0xF1);
        Stage.due("WX 167", none, 159, 0, 0);
        Checks.due("WINDOW", none.about(0, 15), 0);
        HandheldPair far = window(0, 255, 0xF1);
        Stage.due("WX 255", far, 159, 143, 0);
        Checks.due("picture", far.picture(0), 0);
    }

    /** LY not below WY. */
    private static void windowLines() {
        HandheldPair first = window(0, 7, 0xF1);
        Stage.due("WY 0", first, 80, 0, 3);
        HandheldPair ten = window(10, 7, 0xF1);
        Stage.due("WY 10", ten, 80, 9, 0);
        Stage.due("WY 10", ten, 80, 10, 3);
        HandheldPair last = window(143, 7, 0xF1);
        Stage.due("WY 143", last, 80, 142, 0);
        Stage.due("WY 143", last, 80, 143, 3);
        HandheldPair none = window(144, 7, 0xF1);
        Checks.due("WY 144", none.picture(0), 0);
        Checks.due("WY 255", window(255, 7, 0xF1).picture(0), 0);
    }

    private static void windowNeedsItsBit() {
        Checks.due("LCDC bit 5", window(0, 7, 0xD1).picture(0), 0);
        HandheldPair map = window(0, 7, 0xB1);
        Stage.due("LCDC bit 6 clear: the map at $9800", map, 0, 0, 0);
    }

    /** v = WINDOW: its own first line is the first one drawn of it, however late. */
    private static void windowHasItsOwnLines() {
        // Tile 2 has colour 1 in its line 0 alone, tile 3 in its line 7 alone.
        HandheldPair x = new Stage(false).video(0x8020, 255, 0).video(0x803E, 255, 0).fill(0x9C00, 2, 32).fill(0x9C20, 3, 32)
            .register(0x4A, 100).register(0x4B, 7).shown(0xF1);
        int[][] want = {{99, 0}, {100, 1}, {101, 0}, {107, 0}, {108, 0}, {115, 1}, {116, 0}};
        for (int[] w : want) {
            Stage.due("line", x, 50, w[0], w[1]);
        }
        // On from line 0, off in lines 8 to 15, on again: the lines go on where they were.
        Rom rom = new Stage(false).fill(0x9C00, 1, 32).register(0x4A, 0).register(0x4B, 7).rom;
        rom.ldh(0x40, 0xF1).spend(8 * 456 - 20).ldh(0x40, 0xD1).spend(8 * 456 - 20).ldh(0x40, 0xF1).code(0x76);
        HandheldPair y = rom.start();
        Go.toTime(y, 40000);
        int line = y.memory(0, 0xFF44);
        Checks.due("WINDOW", y.about(0, 15), line - 8);
    }

    /** u = (x + SCX) & 255. */
    private static void scrollWrapsAcross() {
        // The map's first row has tile 1 in its column 0 and its column 31 alone.
        int[][] cases = {{0, 0, 3}, {0, 7, 3}, {0, 8, 0}, {255, 0, 3}, {255, 1, 3}, {255, 8, 3}, {255, 9, 0}, {248, 0, 3}, {248, 15, 3}, {248, 16, 0}, {247, 0, 0}, {247, 1, 3}, {97, 159, 3}, {97, 158, 3}, {96, 159, 3}, {88, 159, 0}, {89, 159, 3}, {88, 158, 0}};
        for (int[] c : cases) {
            HandheldPair x = new Stage(false).video(0x9800, 1).video(0x981F, 1).register(0x43, c[0]).shown(0x91);
            Stage.due("SCX " + c[0], x, c[1], 0, c[2]);
        }
    }

    /** v = (LY + SCY) & 255. */
    private static void scrollWrapsDown() {
        int[][] cases = {{0, 0, 3}, {0, 7, 3}, {0, 8, 0}, {255, 0, 3}, {255, 1, 3}, {255, 8, 3}, {255, 9, 0}, {248, 0, 3}, {248, 15, 3}, {248, 16, 0}, {247, 0, 0}, {247, 1, 3}, {113, 143, 3}, {105, 143, 3}, {104, 143, 0}};
        for (int[] c : cases) {
            HandheldPair x = new Stage(false).video(0x9800, 1).video(0x9BE0, 1).register(0x42, c[0]).shown(0x91);
            Stage.due("SCY " + c[0], x, 0, c[1], c[2]);
        }
    }

    private static void scrollBoth() {
        HandheldPair x = new Stage(false).video(0x9BFF, 1).register(0x42, 255).register(0x43, 255).shown(0x91);
        Stage.due("the last of the map", x, 0, 0, 3);
        Stage.due("beside it", x, 1, 0, 0);
        Stage.due("below it", x, 0, 1, 0);
        HandheldPair y = new Stage(false).video(0x9FFF, 1).register(0x42, 255).register(0x43, 255).shown(0x99);
        Stage.due("the last of the other map", y, 0, 0, 3);
    }

    /** LCDC bit 4: $8000 + 16 * t, else $9000 + 16 * t, t as -128 .. 127. */
    private static void tileNumbers() {
        int[][] cases = {{0x91, 0, 0x8000}, {0x91, 127, 0x87F0}, {0x91, 128, 0x8800}, {0x91, 255, 0x8FF0},
            {0x81, 0, 0x9000}, {0x81, 127, 0x97F0}, {0x81, 128, 0x8800}, {0x81, 255, 0x8FF0}};
        for (int[] c : cases) {
            HandheldPair x = new Stage(false).fill(0x8010, 0, 16).video(c[2], 0x80, 0).video(c[2] + 14, 0, 1).video(0x9805, c[1]).shown(c[0]);
            String what = "LCDC " + Integer.toHexString(c[0]) + ", tile " + c[1];
            Stage.due(what, x, 40, 0, 1);
            Stage.due(what, x, 41, 0, 0);
            Stage.due(what, x, 47, 7, 2);
            Stage.due(what, x, 46, 7, 0);
        }
    }

    /** Map bit 3 of LCDC: clear $9800, set $9C00. */
    private static void mapsAndTheirEnds() {
        int[][] cases = {{0x91, 0x9800, 3}, {0x91, 0x9C00, 0}, {0x99, 0x9800, 0}, {0x99, 0x9C00, 3}, {0xD1, 0x9C00, 0}};
        for (int[] c : cases) {
            HandheldPair x = new Stage(false).video(c[1], 1).shown(c[0]);
            Stage.due("map " + Integer.toHexString(c[1]) + " by " + Integer.toHexString(c[0]), x, 0, 0, c[2]);
        }
        HandheldPair x = new Stage(false).video(0x9800 + 17 * 32 + 19, 1).shown(0x91);
        Stage.due("the last tile on the screen", x, 159, 143, 3);
        Stage.due("the one before", x, 151, 143, 0);
        Stage.due("the one above", x, 159, 135, 0);
    }

    /** With COLOUR: a bit 6: line 7 less that; bit 5: column 7 less that; bit 3: bank; bits 0 to 2: its colours. */
    private static void turnedTiles() {
        int[][] cases = {{0x00, 0, 0}, {0x20, 7, 0}, {0x40, 0, 7}, {0x60, 7, 7}};
        for (int[] c : cases) {
            HandheldPair x = new Stage(true).colour(0x68, 0, 0).colour(0x68, 1, 0x1234).video(0x8020, 0x80, 0).video(0x9800, 2).register(0x4F, 1).video(0x9800, c[0]).shown(0x91);
            for (int py = 0; py < 8; py += 7) {
                for (int px = 0; px < 8; px += 7) {
                    Stage.due("attributes " + c[0], x, px, py, px == c[1] && py == c[2] ? 0x1234 : 0);
                }
            }
        }
        HandheldPair x = new Stage(true).colour(0x68, 0, 0).colour(0x68, 3, 0x0456).register(0x4F, 1).fill(0x8020, 255, 16).register(0x4F, 0).video(0x9800, 2, 2)
            .register(0x4F, 1).video(0x9800, 8, 0).shown(0x91);
        Stage.due("bank 1", x, 0, 0, 0x0456);
        Stage.due("bank 0", x, 8, 0, 0);
    }

    /** Without COLOUR and LCDC bit 0 clear: colour 0, and shade 0, whatever BGP says; with COLOUR it is drawn. */
    private static void noBackground() {
        HandheldPair x = new Stage(false).fill(0x9800, 1, 32).register(0x47, 0xFF).shown(0x90);
        Stage.due("shade 0", x, 0, 0, 0);
        Stage.due("shade 0", x, 0, 100, 0);
        HandheldPair y = new Stage(false).fill(0x9800, 1, 32).register(0x47, 0xFF).shown(0x91);
        Stage.due("shade 3", y, 0, 0, 3);
        Stage.due("shade 3 of colour 0", y, 0, 100, 3);
        HandheldPair z = new Stage(true).fill(0x9800, 1, 32).colour(0x68, 3, 0x0777).colour(0x68, 0, 0x0111).shown(0x90);
        Stage.due("with COLOUR", z, 0, 0, 0x0777);
        Stage.due("with COLOUR", z, 0, 100, 0x0111);
        HandheldPair w = new Stage(false).fill(0x9C00, 1, 32).register(0x4B, 7).register(0x47, 0xFF).shown(0xF0);
        Stage.due("no window, either", w, 0, 0, 0);
    }

    private static void shadesOfAllColours() {
        int[] palettes = {0xE4, 0x1B, 0x00, 0xFF, 0x39};
        for (int palette : palettes) {
            // Tile 2's first line has colours 0, 1, 2, 3 from the left.
            HandheldPair x = new Stage(false).video(0x8020, 0x50, 0x30).video(0x9800, 2).register(0x47, palette).shown(0x91);
            for (int c = 0; c < 4; c++) {
                Stage.due("colour " + c + " of " + palette, x, c, 0, palette >> 2 * c & 3);
            }
        }
    }

    /** Word 4 * (attributes & 7) + c, 15 bits. */
    private static void colourWords() {
        int[][] cases = {{0, 0xFFFF, 0x7FFF}, {7, 0x8000, 0}, {7, 0x7FFF, 0x7FFF}, {3, 0x80FF, 0x00FF}, {5, 0xFF00, 0x7F00}};
        for (int[] c : cases) {
            HandheldPair x = new Stage(true).colour(0x68, 4 * c[0] + 3, c[1]).video(0x9800, 1).register(0x4F, 1).video(0x9800, c[0]).shown(0x91);
            Stage.due("palette " + c[0] + ", word " + c[1], x, 0, 0, c[2]);
            Stage.due("all others are $7FFF", x, 8, 0, 0x7FFF);
        }
    }

    private static void attributesOfTheLastMap() {
        HandheldPair x = new Stage(true).colour(0x68, 31, 0x0246).video(0x9FFF, 1).register(0x4F, 1).video(0x9FFF, 7).register(0x42, 255).register(0x43, 255).shown(0x99);
        Stage.due("at the same place in bank 1", x, 0, 0, 0x0246);
    }
}
