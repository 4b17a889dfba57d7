/** Promises 9 to 14: where dot and LY run over, where modes begin, when STAT's line rises, and the screen turned off. */
public final class ScreenEdgeTest {
    private static final int LINE = 456;
    private static final int FRAME = 154 * LINE;

    public static void main(String[] args) {
        dotRunsOver();
        lyRunsOver();
        modesBegin();
        fineScrollIsOfDotEighty();
        firstAndLastPixel();
        pixelsByFineScroll();
        lineOneHundredFortyFour();
        windowBeginsAnew();
        statByLyc();
        statByLyc153AndZero();
        statByModes();
        statRisesOnce();
        statBehindWrites();
        turnedOff();
        turnedOffByItsBitAlone();
        turnedOffInEachMode();
        offTwiceAndOnTwice();
        pixelsAsDrawnLast();
        pictureStays();
        offHasNoStat();
        onBeginsAtTheTop();
        fastHasTwoDots();
        modeThreeIsAlwaysAsLong();
        lineOneHundredFortyFourByAnyLcdc();
        noModeTwoInLineOneHundredFortyFour();
        blankComesWithoutItsStatBit();
        Checks.end("ScreenEdgeTest");
    }

    /** Only HALT: steps of 4 DOTS from 0 on. */
    private static HandheldPair still() {
        return new Rom().put(0x100, 0x76).start();
    }

    private static int mode(HandheldPair x) {
        return x.memory(0, 0xFF41) & 3;
    }

    /** At 456 it is 0 and LY one more. */
    private static void dotRunsOver() {
        HandheldPair x = still();
        x.run(LINE - 4);
        Checks.due("dot", x.about(0, 14), LINE - 4);
        Checks.due("LY", x.memory(0, 0xFF44), 0);
        x.run(4);
        Checks.due("dot", x.about(0, 14), 0);
        Checks.due("LY", x.memory(0, 0xFF44), 1);
        x.run(4);
        Checks.due("dot", x.about(0, 14), 4);
        Checks.due("LY", x.memory(0, 0xFF44), 1);
    }

    /** At 154 it is 0. */
    private static void lyRunsOver() {
        HandheldPair x = still();
        x.run(FRAME - LINE);
        Checks.due("LY", x.memory(0, 0xFF44), 153);
        x.run(LINE - 4);
        Checks.due("LY", x.memory(0, 0xFF44), 153);
        Checks.due("mode", mode(x), 1);
        x.run(4);
        Checks.due("LY", x.memory(0, 0xFF44), 0);
        Checks.due("dot", x.about(0, 14), 0);
        Checks.due("mode 1 until dot 0 is done", mode(x), 1);
        x.run(4);
        Checks.due("mode", mode(x), 2);
        x.run(LINE);
        Checks.due("LY", x.memory(0, 0xFF44), 1);
    }

    private static void dueMode(int dots, int mode) {
        HandheldPair x = still();
        Go.toTime(x, dots);
        Checks.due("mode behind " + dots + " DOTS", mode(x), mode);
    }

    /** Dot 0 mode 2; 80: mode 3; 252 + F: mode 0; LY 144, dot 0: mode 1. */
    private static void modesBegin() {
        int[][] cases = {{0, 0}, {4, 2}, {80, 2}, {84, 3}, {252, 3}, {256, 0}, {456, 0}, {460, 2},
            {143 * LINE + 4, 2}, {143 * LINE + 84, 3}, {143 * LINE + 256, 0}, {144 * LINE, 0}, {144 * LINE + 4, 1}, {144 * LINE + 84, 1},
            {144 * LINE + 256, 1}, {145 * LINE + 4, 1}, {153 * LINE + 4, 1}, {FRAME, 1}, {FRAME + 4, 2}};
        for (int[] c : cases) {
            dueMode(c[0], c[1]);
        }
    }

    /** F = SCX & 7 of dot 80: a write that ends at 80 counts, one that ends at 84 does not. */
    private static void fineScrollIsOfDotEighty() {
        for (int late = 0; late < 2; late++) {
            HandheldPair x = new Rom().spend(80 - 16 - 20 + 4 * late).ldh(0x43, 7).code(0x76).start();
            x.run(256);
            Checks.due("mode behind 256", mode(x), late == 0 ? 3 : 0);
            x.run(4);
            Checks.due("mode behind 260", mode(x), 0);
        }
        int[][] cases = {{0, 256}, {1, 256}, {3, 256}, {4, 260}, {7, 260}, {8, 256}, {15, 260}, {255, 260}};
        for (int[] c : cases) {
            HandheldPair x = new Rom().ldh(0x43, c[0]).code(0x76).start();
            x.run(c[1] - 4);
            Checks.due("SCX " + c[0] + ", before", mode(x), 3);
            x.run(4);
            Checks.due("SCX " + c[0], mode(x), 0);
        }
    }

    /** BGP's colour 0 becomes shade 3 by a write that ends with this DOT; the line's pixel x is drawn at dot 92 + x. */
    private static void dueFirst(int dots, int x0, int want) {
        HandheldPair x = new Rom().spend(dots - 16 - 20).ldh(0x47, 3).code(0x76).start();
        x.run(LINE);
        Stage.due("written by " + dots, x, x0, 0, want);
    }

    private static void firstAndLastPixel() {
        dueFirst(92, 0, 3);
        dueFirst(96, 3, 0);
        dueFirst(96, 4, 3);
        dueFirst(248, 159, 3);
        dueFirst(252, 159, 0);
        dueFirst(252, 0, 0);
        HandheldPair x = new Rom().ldh(0x47, 3).code(0x76).start();
        x.run(92);
        Stage.due("dot 91 draws none", x, 0, 0, 0);
        x.run(4);
        Stage.due("dot 92 draws the first", x, 0, 0, 3);
        Stage.due("dot 95 draws the fourth", x, 3, 0, 3);
        Stage.due("no more", x, 4, 0, 0);
        x.run(152);
        Stage.due("dot 247", x, 155, 0, 3);
        Stage.due("not yet", x, 156, 0, 0);
        x.run(4);
        Stage.due("dot 251 draws the last", x, 159, 0, 3);
    }

    private static void pixelsByFineScroll() {
        for (int scx = 0; scx < 8; scx++) {
            HandheldPair x = new Rom().ldh(0x43, scx).ldh(0x47, 3).code(0x76).start();
            x.run(100);
            for (int px = 0; px < 9; px++) {
                Stage.due("SCX " + scx, x, px, 0, px < 8 - scx ? 3 : 0);
            }
            x.run(152);
            for (int px = 150; px < 160; px++) {
                Stage.due("SCX " + scx, x, px, 0, px < 160 - scx ? 3 : 0);
            }
            x.run(8);
            Stage.due("SCX " + scx, x, 159, 0, 3);
        }
    }

    /** 0 the screen's line 144 begins: once in each frame. */
    private static void lineOneHundredFortyFour() {
        HandheldPair x = new Rom().ldh(0x0F, 0).spend(144 * LINE + 100 - 36).ldh(0x0F, 0).code(0x76).start();
        x.run(144 * LINE);
        Checks.due("not yet", x.memory(0, 0xFF0F), 0xE0);
        x.run(28);
        Checks.due("asked for", x.memory(0, 0xFF0F), 0xE1);
        x.run(60000);
        Checks.due("cleared", x.memory(0, 0xFF0F), 0xE0);
        Go.toTime(x, FRAME + 144 * LINE);
        Checks.due("not before its line 144", x.memory(0, 0xFF0F), 0xE0);
        x.run(4);
        Checks.due("asked for again", x.memory(0, 0xFF0F), 0xE1);
    }

    /** LY 144: WINDOW is 0; line 0: WINDOW 0; one more at dot 0 if the line before had a pixel of it. */
    private static void windowBeginsAnew() {
        HandheldPair x = new Rom().ldh(0x4B, 7).ldh(0x40, 0xB1).code(0x76).start();
        int[][] cases = {{4, 0}, {LINE, 0}, {LINE + 4, 1}, {2 * LINE, 1}, {2 * LINE + 4, 2}, {143 * LINE + 4, 143}, {144 * LINE, 143}, {144 * LINE + 4, 0}, {FRAME, 0}, {FRAME + 4, 0}, {FRAME + LINE + 4, 1}};
        for (int[] c : cases) {
            Go.toTime(x, c[0]);
            if (c[0] > 100) {
                Checks.due("WINDOW behind " + c[0], x.about(0, 15), c[1]);
            }
        }
    }

    private static void dueStat(String what, int stat, int lyc, int dots) {
        HandheldPair x = new Rom().ldh(0x45, lyc).ldh(0x41, stat).ldh(0x0F, 0).code(0x76).start();
        Go.toTime(x, dots - 4);
        Checks.due(what + ": not yet", x.memory(0, 0xFF0F) & 2, 0);
        x.run(4);
        Checks.due(what, x.memory(0, 0xFF0F) & 2, 2);
    }

    /** At each DOT's end: LY has gone on by then. */
    private static void statByLyc() {
        dueStat("LYC 1", 0x40, 1, LINE);
        dueStat("LYC 143", 0x40, 143, 143 * LINE);
        dueStat("LYC 144", 0x40, 144, 144 * LINE);
        HandheldPair x = new Rom().ldh(0x45, 154).ldh(0x41, 0x40).ldh(0x0F, 0).code(0x76).start();
        Go.toTime(x, 2 * FRAME);
        Checks.due("LYC 154: never", x.memory(0, 0xFF0F) & 2, 0);
    }

    private static void statByLyc153AndZero() {
        dueStat("LYC 153", 0x40, 153, 153 * LINE);
        // LY 0 is LYC when STAT is written; that rise is cleared, the next comes with the next frame.
        dueStat("LYC 0", 0x40, 0, FRAME);
    }

    private static void statByModes() {
        dueStat("mode 0", 0x08, 200, 256);
        dueStat("mode 1", 0x10, 200, 144 * LINE + 4);
        dueStat("mode 2", 0x20, 200, LINE + 4);
        HandheldPair x = new Rom().ldh(0x45, 200).ldh(0x41, 0x20).ldh(0x0F, 0).spend(144 * LINE - 76 + 20 - 20).ldh(0x0F, 0).code(0x76).start();
        Go.toTime(x, FRAME);
        Checks.due("no mode 2 in lines 144 to 153", x.memory(0, 0xFF0F) & 2, 0);
        x.run(4);
        Checks.due("mode 2 of line 0", x.memory(0, 0xFF0F) & 2, 2);
    }

    /** Each time it rises: two causes that follow at once make one rise. */
    private static void statRisesOnce() {
        // Modes 0 and 2: the line stays up from one line's mode 0 through the next line's mode 2.
        HandheldPair x = new Rom().ldh(0x45, 200).ldh(0x41, 0x28).ldh(0x0F, 0).spend(300 - 76).ldh(0x0F, 0).code(0x76).start();
        x.run(LINE + 40);
        Checks.due("mode 2 begins, no rise", x.memory(0, 0xFF0F) & 2, 0);
        x.run(252 - 40);
        Checks.due("mode 3 let it fall", x.memory(0, 0xFF0F) & 2, 0);
        x.run(4);
        Checks.due("mode 0 makes it rise", x.memory(0, 0xFF0F) & 2, 2);
        // LY is LYC through all of line 1: mode 0 within it makes no rise.
        HandheldPair y = new Rom().ldh(0x45, 1).ldh(0x41, 0x48).ldh(0x0F, 0).spend(LINE + 20 - 76).ldh(0x0F, 0).code(0x76).start();
        Go.toTime(y, 2 * LINE);
        Checks.due("no rise in line 1", y.memory(0, 0xFF0F) & 2, 0);
        y.run(256);
        Checks.due("the next in line 2", y.memory(0, 0xFF0F) & 2, 2);
    }

    /** Behind each write of a register: STAT, LYC and LCDC. */
    private static void statBehindWrites() {
        // Written at 300, in mode 0 of line 0.
        int[][] cases = {{0x08, 9, 2}, {0x10, 9, 0}, {0x20, 9, 0}, {0x40, 9, 0}, {0x40, 0, 2}, {0x70, 9, 0}, {0x87, 0, 0}};
        for (int[] c : cases) {
            HandheldPair x = new Rom().ldh(0x0F, 0).ldh(0x45, c[1]).spend(300 - 76).ldh(0x41, c[0]).code(0x76).start();
            x.run(300);
            Checks.due("STAT " + c[0] + ", LYC " + c[1], x.memory(0, 0xFF0F) & 2, c[2]);
        }
        HandheldPair x = new Rom().ldh(0x0F, 0).ldh(0x45, 1).ldh(0x41, 0x40).nops(10).ldh(0x45, 0).ldh(0x0F, 0).ldh(0x45, 0).ldh(0x45, 1).ldh(0x45, 0).code(0x76).start();
        x.run(116);
        Checks.due("LYC is not LY", x.memory(0, 0xFF0F) & 2, 0);
        x.run(20);
        Checks.due("LYC is LY", x.memory(0, 0xFF0F) & 2, 2);
        x.run(40);
        Checks.due("the same once more: no rise", x.memory(0, 0xFF0F) & 2, 0);
        x.run(20);
        Checks.due("it fell", x.memory(0, 0xFF0F) & 2, 0);
        x.run(20);
        Checks.due("it rises again", x.memory(0, 0xFF0F) & 2, 2);
        Checks.due("all in line 0", x.memory(0, 0xFF44), 0);
    }

    /** From that write on: LY 0, dot 0, WINDOW 0, mode 0. */
    private static void turnedOff() {
        HandheldPair x = new Rom().ldh(0x4B, 7).ldh(0x40, 0xB1).spend(5 * LINE + 100).ldh(0x40, 0x31).nops(10).code(0x76).start();
        x.run(56 + 5 * LINE + 100);
        Checks.due("LY", x.memory(0, 0xFF44), 5);
        Checks.due("WINDOW", x.about(0, 15), 5);
        x.run(20);
        Checks.due("LY", x.memory(0, 0xFF44), 0);
        Checks.due("dot", x.about(0, 14), 0);
        Checks.due("WINDOW", x.about(0, 15), 0);
        Checks.due("STAT", x.memory(0, 0xFF41), 0x84);
        x.run(80000);
        Checks.due("it stays so", x.memory(0, 0xFF44) + x.about(0, 14) + mode(x), 0);
        Checks.due("no line 144", x.memory(0, 0xFF0F), 0xE1);
    }

    /** By bit 7 alone, whatever else LCDC has. */
    private static void turnedOffByItsBitAlone() {
        int[][] cases = {{0x80, 0x00, 1}, {0xFF, 0x7F, 1}, {0x80, 0x7F, 1}, {0xFF, 0x80, 0}, {0x80, 0xFF, 0}};
        for (int[] c : cases) {
            HandheldPair x = new Rom().ldh(0x40, c[0]).spend(1000).ldh(0x40, c[1]).nops(10).code(0x76).start();
            x.run(16 + 20 + 1000 + 20);
            Checks.due("LY of " + c[0] + ", then " + c[1], x.memory(0, 0xFF44), c[2] == 1 ? 0 : 2);
            Checks.due("dot", x.about(0, 14), c[2] == 1 ? 0 : 1056 - 2 * LINE);
        }
    }

    private static void turnedOffInEachMode() {
        int[] ends = {40, 120, 300, 144 * LINE + 100};
        for (int end : ends) {
            HandheldPair x = new Rom().ldh(0x40, 0).poke(0x8000, 0x21).poke(0xFE00, 0x22).ldh(0x40, 0x91).spend(end - 20).ldh(0x40, 0).code(0x76).start();
            Go.toTime(x, 104 + end);
            Checks.due("mode", mode(x), 0);
            Checks.due("VIDEO is not blocked", x.memory(0, 0x8000), 0x21);
            Checks.due("sprites are not blocked", x.memory(0, 0xFE00), 0x22);
        }
    }

    /** Once it is cleared: a second write that leaves it so, or set, begins nothing anew. */
    private static void offTwiceAndOnTwice() {
        HandheldPair x = new Rom().spend(1000).ldh(0x40, 0x91).nops(10).code(0x76).start();
        x.run(1036);
        Checks.due("on while it is on", x.memory(0, 0xFF44), 2);
        Checks.due("dot", x.about(0, 14), 1036 - 2 * LINE);
        HandheldPair y = new Rom().ldh(0x40, 0).ldh(0x40, 0x13).nops(10).ldh(0x40, 0x91).code(0x76).start();
        y.run(116);
        Checks.due("dot", y.about(0, 14), 0);
        y.run(8);
        Checks.due("dot", y.about(0, 14), 8);
    }

    /** The pixel as it was drawn last: those above the line are of this frame, those below of the one before. */
    private static void pixelsAsDrawnLast() {
        HandheldPair x = new Rom().ldh(0x47, 3).spend(FRAME + 50 * LINE - 36).ldh(0x47, 1).code(0x76).start();
        Go.toTime(x, FRAME + 60 * LINE);
        int[][] want = {{0, 3}, {49, 3}, {50, 1}, {59, 1}, {60, 3}, {143, 3}};
        for (int[] w : want) {
            Stage.due("in the second frame", x, 159, w[0], w[1]);
        }
        Go.toTime(x, 2 * FRAME + 30 * LINE);
        int[][] later = {{0, 1}, {29, 1}, {30, 3}, {49, 3}, {50, 1}, {143, 1}};
        for (int[] w : later) {
            Stage.due("in the third frame", x, 0, w[0], w[1]);
        }
    }

    private static void pictureStays() {
        HandheldPair x = new Rom().ldh(0x47, 3).spend(100 * LINE).ldh(0x40, 0).ldh(0x47, 1).nops(10).code(0x76).start();
        Go.toTime(x, 56 + 100 * LINE);
        int picture = x.picture(0);
        x.run(80000);
        Checks.due("picture", x.picture(0), picture);
        Stage.due("a pixel", x, 10, 50, 3);
    }

    /** No STAT LINE with LCDC bit 7 clear: it falls at that write, and rises when it is set. */
    private static void offHasNoStat() {
        HandheldPair x = new Rom().ldh(0x45, 0).ldh(0x41, 0x40).ldh(0x40, 0x11).ldh(0x0F, 0).ldh(0x45, 5).ldh(0x45, 0).ldh(0x41, 0x48).nops(10).ldh(0x40, 0x91).code(0x76).start();
        x.run(16 + 7 * 20 + 40);
        Checks.due("none while it is off", x.memory(0, 0xFF0F), 0xE0);
        x.run(20);
        Checks.due("it rises behind the write", x.memory(0, 0xFF0F), 0xE2);
    }

    private static void onBeginsAtTheTop() {
        HandheldPair x = new Rom().spend(3 * LINE).ldh(0x40, 0).nops(10).ldh(0x40, 0x91).code(0x76).start();
        int on = 16 + 3 * LINE + 20 + 40 + 20;
        x.run(on);
        Checks.due("mode 0 until the first DOT", mode(x), 0);
        x.run(4);
        Checks.due("mode", mode(x), 2);
        x.run(LINE - 4);
        Checks.due("LY", x.memory(0, 0xFF44), 1);
        Checks.due("dot", x.about(0, 14), 0);
        Go.toTime(x, on + 144 * LINE);
        Checks.due("LY", x.memory(0, 0xFF44), 144);
    }

    /** FAST: twice DOT. */
    private static void fastHasTwoDots() {
        HandheldPair x = new Rom().colour().ldh(0x4D, 1).code(0x10, 0, 0x76).start();
        x.run(80);
        Checks.due("dot", x.about(0, 14), 80);
        Checks.due("mode", mode(x), 2);
        x.run(2);
        Checks.due("dot", x.about(0, 14), 82);
        Checks.due("mode", mode(x), 3);
        x.run(170);
        Checks.due("mode", mode(x), 3);
        x.run(2);
        Checks.due("mode", mode(x), 0);
        x.run(LINE - 254);
        Checks.due("LY", x.memory(0, 0xFF44), 1);
        Checks.due("dot", x.about(0, 14), 0);
    }

    private static void toTheTop(HandheldPair x) {
        x.run((154 - x.memory(0, 0xFF44)) * LINE - x.about(0, 14));
        Checks.due("LY and dot", x.memory(0, 0xFF44) + x.about(0, 14), 0);
    }

    /** 252 + F: mode 0, whatever window and sprites the line has. */
    private static void modeThreeIsAlwaysAsLong() {
        Stage stage = new Stage(false).fill(0x9C00, 1, 32).register(0x4B, 20);
        for (int k = 0; k < 10; k++) {
            stage.sprite(k, 16, 8 + 13 * k, 1, 0);
        }
        HandheldPair x = stage.rom.ldh(0x40, 0xF3).code(0x76).start();
        x.run(40000);
        toTheTop(x);
        for (int line = 0; line < 8; line++) {
            x.run(84);
            Checks.due("mode", mode(x), 3);
            x.run(168);
            Checks.due("mode behind 252", mode(x), 3);
            x.run(4);
            Checks.due("mode behind 256", mode(x), 0);
            x.run(200);
        }
        Stage.due("the window was drawn", x, 159, 0, 3);
        Stage.due("sprites were drawn", x, 0, 0, 3);
    }

    /** Interrupt 0, whatever LCDC's other bits are. */
    private static void lineOneHundredFortyFourByAnyLcdc() {
        int[] values = {0x80, 0x81, 0x82, 0x84, 0x88, 0x90, 0xA0, 0xC0, 0xFF};
        for (int lcdc : values) {
            HandheldPair x = new Rom().ldh(0x40, lcdc).ldh(0x0F, 0).code(0x76).start();
            x.run(144 * LINE);
            Checks.due("not yet", x.memory(0, 0xFF0F), 0xE0);
            x.run(4);
            Checks.due("asked for", x.memory(0, 0xFF0F), 0xE1);
        }
    }

    /** Bit 5 and mode 2: line 144 has none. IF is cleared in mode 0 of line 143. */
    private static void noModeTwoInLineOneHundredFortyFour() {
        HandheldPair x = new Rom().ldh(0x45, 200).ldh(0x41, 0x20).spend(143 * LINE + 300 - 56 - 20).ldh(0x0F, 0).code(0x76).start();
        Go.toTime(x, 144 * LINE);
        Checks.due("IF", x.memory(0, 0xFF0F), 0xE0);
        x.run(4);
        Checks.due("interrupt 0 alone", x.memory(0, 0xFF0F), 0xE1);
        Go.toTime(x, FRAME);
        Checks.due("interrupt 0 alone", x.memory(0, 0xFF0F), 0xE1);
        x.run(4);
        Checks.due("mode 2 of line 0", x.memory(0, 0xFF0F), 0xE3);
    }

    /** 0 and 1 are asked for each by its own: without bit 4 line 144 makes no STAT LINE, with it both come. */
    private static void blankComesWithoutItsStatBit() {
        int[][] cases = {{0x00, 0xE1}, {0x08, 0xE1}, {0x10, 0xE3}, {0x18, 0xE1}, {0x78, 0xE1}};
        for (int[] c : cases) {
            HandheldPair x = new Rom().ldh(0x45, 200).ldh(0x41, c[0]).spend(143 * LINE + 300 - 56 - 20).ldh(0x0F, 0).code(0x76).start();
            Go.toTime(x, 144 * LINE);
            Checks.due("IF", x.memory(0, 0xFF0F), 0xE0);
            x.run(4);
            Checks.due("IF of STAT " + c[0], x.memory(0, 0xFF0F), c[1]);
        }
    }
}
