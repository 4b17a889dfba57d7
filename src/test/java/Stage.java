/** A scene that is set up with the screen off, and then shown. Tile 1 is of colour 3 all over; shades are colours. */
final class Stage {
    private static final int FRAME = 154 * 456;
    final Rom rom = new Rom(0x2000);

    Stage(boolean colour) {
        if (colour) {
            rom.colour();
        }
        rom.ldh(0x40, 0).ldh(0x47, 0xE4).ldh(0x48, 0xE4).ldh(0x49, 0x1B);
        fill(0x8010, 255, 16);
    }

    Stage video(int address, int... values) {
        for (int i = 0; i < values.length; i++) {
            rom.poke(address + i, values[i]);
        }
        return this;
    }

    /** The same value n times, n up to 256. */
    Stage fill(int address, int v, int n) {
        rom.code(0x21, address, address >> 8, 0x06, n, 0x3E, v, 0x22, 0x05, 0x20, 0xFC);
        return this;
    }

    Stage sprite(int k, int y, int x, int tile, int attributes) {
        return video(0xFE00 + 4 * k, y, x, tile, attributes);
    }

    Stage register(int low, int v) {
        rom.ldh(low, v);
        return this;
    }

    /** A colour's word, of the background's at 68 or the sprites' at 6A. */
    Stage colour(int low, int which, int word) {
        rom.ldh(low, 0x80 | 2 * which).ldh(low + 1, word & 255).ldh(low + 1, word >> 8);
        return this;
    }

    /** Turned on, and a frame and some more drawn. */
    HandheldPair shown(int lcdc) {
        HandheldPair x = rom.ldh(0x40, lcdc).code(0x76).start();
        Go.toTime(x, FRAME + 40000);
        return x;
    }

    static void due(String what, HandheldPair x, int px, int py, int want) {
        Checks.due(what + " (" + px + ", " + py + ")", x.pixel(0, px, py), want);
    }
}
