/** The screen of the Model, DOT by DOT. */
final class ModelScreen {
    ModelConsole console;
    int mode;
    int dot;
    int window;
    private int ly;
    private int lcdc = 0x91;
    private int stat;
    private int scy;
    private int scx;
    private int lyc;
    private int bgp = 0xFC;
    private int obp0;
    private int obp1;
    private int wy;
    private int wx;
    private int fine;
    private boolean windowShown;
    private boolean statLine;
    private int[] chosen = new int[0];
    private int[] colours = new int[128];
    private int[] indexes = new int[2];

    ModelScreen(ModelConsole console) {
        this.console = console;
        java.util.Arrays.fill(colours, 255);
    }

    int read(int low) {
        switch (low) {
            case 0x40: return lcdc;
            case 0x41: return 0x80 | stat | mode | (ly == lyc ? 4 : 0);
            case 0x42: return scy;
            case 0x43: return scx;
            case 0x44: return ly;
            case 0x45: return lyc;
            case 0x47: return bgp;
            case 0x48: return obp0;
            case 0x49: return obp1;
            case 0x4A: return wy;
            case 0x4B: return wx;
            case 0x68: return indexes[0] | 0x40;
            case 0x6A: return indexes[1] | 0x40;
            case 0x69: return mode == 3 ? 255 : colours[indexes[0] % 64];
            default: return mode == 3 ? 255 : colours[64 + indexes[1] % 64];
        }
    }

    void write(int low, int v) {
        switch (low) {
            case 0x40 -> {
                boolean off = lcdc >= 128 && v < 128;
                lcdc = v;
                if (off) {
                    ly = 0;
                    dot = 0;
                    window = 0;
                    mode = 0;
                    statLine = false;
                }
            }
            case 0x41 -> stat = v & 0x78;
            case 0x42 -> scy = v;
            case 0x43 -> scx = v;
            case 0x45 -> lyc = v;
            case 0x47 -> bgp = v;
            case 0x48 -> obp0 = v;
            case 0x49 -> obp1 = v;
            case 0x4A -> wy = v;
            case 0x4B -> wx = v;
            case 0x68 -> indexes[0] = v & 0xBF;
            case 0x6A -> indexes[1] = v & 0xBF;
            case 0x69, 0x6B -> writeColour((low - 0x69) / 2, v);
            default -> {
            }
        }
    }

    private void writeColour(int which, int v) {
        int index = indexes[which] % 64;
        if (mode != 3) {
            colours[64 * which + index] = v;
        }
        if (indexes[which] >= 128) {
            indexes[which] = 128 + (index + 1) % 64;
        }
    }

    void lookAtStatLine() {
        boolean line = lcdc >= 128 && ((stat & 64) != 0 && ly == lyc || (stat & 8) != 0 && mode == 0
            || (stat & 16) != 0 && mode == 1 || (stat & 32) != 0 && mode == 2);
        if (line && !statLine) {
            console.ask(1);
        }
        statLine = line;
    }

    void dot() {
        if (lcdc < 128) {
            return;
        }
        if (ly < 144) {
            line();
        }
        if (ly == 144 && dot == 0) {
            mode = 1;
            console.ask(0);
            window = 0;
        }
        dot++;
        if (dot == 456) {
            dot = 0;
            ly = (ly + 1) % 154;
        }
        lookAtStatLine();
    }

    private void line() {
        if (dot == 0) {
            mode = 2;
            if (ly == 0) {
                window = 0;
            } else if (windowShown) {
                window++;
            }
            windowShown = false;
        }
        if (dot == 80) {
            mode = 3;
            fine = scx % 8;
            choose();
        }
        if (dot >= 92 + fine && dot <= 251 + fine) {
            int x = dot - 92 - fine;
            console.pixels[160 * ly + x] = pixel(x);
        }
        if (dot == 252 + fine) {
            mode = 0;
            console.slowBlock();
        }
    }

    private int height() {
        return (lcdc & 4) != 0 ? 16 : 8;
    }

    private void choose() {
        int[] found = new int[10];
        int n = 0;
        for (int k = 0; k < 40 && n < 10; k++) {
            int top = console.sprites[4 * k] - 16;
            if (ly >= top && ly < top + height()) {
                found[n++] = k;
            }
        }
        chosen = java.util.Arrays.copyOf(found, n);
    }

    private int bit(int address, int column) {
        return console.video[address] >> 7 - column & 1;
    }

    private int pixel(int x) {
        boolean inWindow = (lcdc & 32) != 0 && ly >= wy && x + 7 >= wx;
        windowShown |= inWindow;
        int u = inWindow ? x + 7 - wx : (x + scx) % 256;
        int v = inWindow ? window : (ly + scy) % 256;
        int map = (lcdc & (inWindow ? 64 : 8)) != 0 ? 0x1C00 : 0x1800;
        int place = map + 32 * (v / 8) + u / 8;
        int attributes = console.colour ? console.video[8192 + place] : 0;
        int t = console.video[place];
        int data = (lcdc & 16) != 0 ? 16 * t : 0x1000 + 16 * (t < 128 ? t : t - 256);
        int line = (attributes & 64) != 0 ? 7 - v % 8 : v % 8;
        int column = (attributes & 32) != 0 ? 7 - u % 8 : u % 8;
        data += 2 * line + ((attributes & 8) != 0 ? 8192 : 0);
        int back = bit(data, column) + 2 * bit(data + 1, column);
        boolean none = !console.colour && (lcdc & 1) == 0;
        if (none) {
            back = 0;
        }
        int sprite = (lcdc & 2) != 0 ? spriteAt(x) : -1;
        if (sprite >= 0) {
            int own = console.sprites[4 * sprite + 3];
            boolean behind = back != 0 && ((own | attributes) & 128) != 0 && (!console.colour || (lcdc & 1) != 0);
            if (!behind) {
                int front = spriteColour(sprite, x);
                if (console.colour) {
                    return word(64 + 8 * (own % 8) + 2 * front);
                }
                return ((own & 16) != 0 ? obp1 : obp0) >> 2 * front & 3;
            }
        }
        if (console.colour) {
            return word(8 * (attributes % 8) + 2 * back);
        }
        return none ? 0 : bgp >> 2 * back & 3;
    }

    private int word(int at) {
        return (colours[at] + 256 * colours[at + 1]) & 0x7FFF;
    }

    private int spriteAt(int x) {
        int best = -1;
        for (int k : chosen) {
            int right = console.sprites[4 * k + 1];
            if (x < right - 8 || x > right - 1 || spriteColour(k, x) == 0) {
                continue;
            }
            if (best < 0 || !console.colour && right < console.sprites[4 * best + 1]) {
                best = k;
            }
        }
        return best;
    }

    private int spriteColour(int k, int x) {
        int own = console.sprites[4 * k + 3];
        int line = Math.floorMod(ly - console.sprites[4 * k] + 16, height());
        if ((own & 64) != 0) {
            line = height() - 1 - line;
        }
        int tile = console.sprites[4 * k + 2];
        if (height() == 16) {
            tile = tile / 2 * 2 + line / 8;
        }
        int column = x - console.sprites[4 * k + 1] + 8;
        if ((own & 32) != 0) {
            column = 7 - column;
        }
        int data = 16 * tile + 2 * (line % 8) + (console.colour && (own & 8) != 0 ? 8192 : 0);
        return bit(data, column) + 2 * bit(data + 1, column);
    }
}
