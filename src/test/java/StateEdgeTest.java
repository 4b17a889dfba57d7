/** Promises 16 and 17: a state kept in the very middle of something, and taken back when all is otherwise. */
public final class StateEdgeTest {
    public static void main(String[] args) {
        registersOfTheProcessor();
        speedThatIsArmed();
        enableThatIsToCome();
        byteThatIsReadTwice();
        waiting();
        image();
        cartridgeRegisters();
        clockDots();
        clockRegisters();
        timerWait();
        cableOfColours();
        copyThatIsToCome();
        copySource();
        blockPlaces();
        blockMidway();
        blockCyclesOwed();
        memories();
        chosenSprites();
        fineScroll();
        windowOfTheLine();
        statLine();
        shadesAndColours();
        stepsOfSound();
        envelopeMidway();
        sweepMidway();
        keysAndHalves();
        goalAndTimes();
        asideStays();
        keptStaysKept();
        offAndOn();
        Checks.end("StateEdgeTest");
    }

    /** Runs on to this TIME, keeps, runs on to that, takes back. */
    private static HandheldPair takenBack(Rom rom, int first, int second) {
        HandheldPair x = rom.start();
        Go.toTime(x, first);
        x.keep(0);
        Go.toTime(x, second);
        x.take(0);
        return x;
    }

    private static void registersOfTheProcessor() {
        Rom rom = new Rom().ldh(0xFF, 0x15).ldh(0x90, 0x42).ldh(0x4D, 1).code(0x31, 0x00, 0xD0, 0x01, 0x02, 0x01, 0x11, 0x04, 0x03, 0x21, 0x06, 0x05, 0x37).nops(10)
            .ldh(0xFF, 0).ldh(0x90, 0x43).code(0x31, 0x00, 0xC8, 0x01, 0, 0, 0x11, 0, 0, 0x21, 0, 0, 0xAF).stay();
        HandheldPair x = takenBack(rom, 16 + 60 + 52 + 20, 400);
        int[] want = {1, 0x90, 1, 2, 3, 4, 5, 6, 0xD000};
        for (int what = 0; what < want.length; what++) {
            Checks.due("about " + what, x.about(0, what), want[what]);
        }
        Checks.due("IE", x.memory(0, 0xFFFF), 0x15);
        Checks.due("HIGH memory", x.memory(0, 0xFF90), 0x42);
        x.run(300);
        Checks.due("it goes on", x.about(0, 8), 0xC800);
    }

    private static void speedThatIsArmed() {
        Rom rom = new Rom().colour().ldh(0x4D, 1).nops(10).code(0x10, 0x00).stay();
        HandheldPair x = takenBack(rom, 50, 200);
        Checks.due("KEY1", x.memory(0, 0xFF4D), 0x7F);
        Checks.due("not FAST", x.about(0, 13), 0);
        x.run(100);
        Checks.due("FAST", x.about(0, 13), 1);
        HandheldPair y = takenBack(new Rom().colour().nops(10).ldh(0x4D, 1).nops(10).stay(), 30, 90);
        Checks.due("KEY1", y.memory(0, 0xFF4D), 0x7E);
    }

    private static void enableThatIsToCome() {
        HandheldPair x = new Rom().code(0xFB, 0x00, 0xF3, 0x00).start();
        Go.step(x, 2);
        x.keep(0);
        Go.step(x, 2);
        Checks.due("IME", x.about(0, 10), 0);
        x.take(0);
        Checks.due("IME", x.about(0, 10), 0);
        Go.step(x, 1);
        Checks.due("it comes again", x.about(0, 10), 1);
        HandheldPair y = new Rom().code(0x00, 0x00, 0xFB, 0x00).start();
        Go.step(y, 2);
        y.keep(0);
        Go.step(y, 2);
        y.take(0);
        Go.step(y, 1);
        Checks.due("none was to come then", y.about(0, 10), 0);
        HandheldPair z = new Rom().code(0xFB, 0x00, 0x00, 0xF3, 0x00).start();
        Go.step(z, 3);
        z.keep(1);
        Go.step(z, 2);
        Checks.due("IME", z.about(0, 10), 0);
        z.take(1);
        Checks.due("IME", z.about(0, 10), 1);
    }

    private static void byteThatIsReadTwice() {
        HandheldPair x = new Rom().ldh(0xFF, 1).code(0x76, 0x3C, 0x00, 0x00).start();
        Go.step(x, 4);
        x.keep(0);
        Go.step(x, 3);
        x.take(0);
        Go.step(x, 2);
        Checks.due("done twice again", x.about(0, 0), 3);
        HandheldPair y = new Rom().ldh(0xFF, 1).code(0x00, 0x76, 0x3C).start();
        Go.step(y, 3);
        y.keep(0);
        Go.step(y, 2);
        y.take(0);
        Go.step(y, 1);
        Checks.due("the byte before HALT is read once", y.about(0, 9), 0x155);
    }

    private static void waiting() {
        HandheldPair x = new Rom().ldh(0x0F, 0).ldh(0xFF, 0x10).code(0x76).stay().start();
        x.run(100);
        x.keep(0);
        x.keys(0, 1);
        x.run(100);
        Checks.due("it runs", x.about(0, 11), 0);
        x.take(0);
        Checks.due("HALT", x.about(0, 11), 1);
        Checks.due("no key is down", x.memory(0, 0xFF00), 0xCF);
        x.run(100);
        Checks.due("HALT", x.about(0, 11), 1);
        int[] codes = {0x76, 0x10, 0xD3};
        for (int code : codes) {
            HandheldPair y = new Rom().nops(20).code(code, 0, 0).start();
            y.run(40);
            y.keep(0);
            y.run(200);
            int state = y.about(0, 11);
            y.keep(1);
            y.take(0);
            Checks.due("it ran then", y.about(0, 11), 0);
            y.take(1);
            Checks.due("it waited then", y.about(0, 11), state);
            y.power(0);
            y.take(1);
            Checks.due("it waited then", y.about(0, 11), state);
        }
    }

    private static void image() {
        HandheldPair x = new Rom(0x10000).kind(1, 0).put(0x200, 0x31).put(0xFFFF, 0x32).poke(0x2000, 3).stay().start();
        x.run(100);
        x.keep(0);
        new Rom(0x8000).kind(0, 0).put(0x200, 0x41).put(0x7FFF, 0x42).stay().insertInto(x, 0);
        x.keep(1);
        x.take(0);
        Checks.due("the first byte", x.memory(0, 0x200), 0x31);
        Checks.due("bank 3 of four", x.memory(0, 0x7FFF), 0x32);
        x.take(1);
        Checks.due("the second's byte", x.memory(0, 0x200), 0x41);
        Checks.due("bank 1 of two", x.memory(0, 0x7FFF), 0x42);
        x.take(0);
        Checks.due("bank 3 again", x.memory(0, 0x7FFF), 0x32);
        x.power(0);
        Checks.due("power has the cartridge of then", x.memory(0, 0x200), 0x31);
    }

    private static void cartridgeRegisters() {
        Rom rom = new Rom(0x10000).kind(3, 3).poke(0, 10).poke(0x2000, 2).poke(0x4000, 3).poke(0x6000, 1).poke(0xA000, 0x21).nops(20)
            .poke(0x6000, 0).poke(0xA000, 0x22).poke(0x4000, 1).poke(0x2000, 3).poke(0, 0).stay();
        HandheldPair x = takenBack(rom, 16 + 5 * 24 + 40, 500);
        Checks.due("LOW", x.about(0, 21), 2);
        Checks.due("HIGH", x.about(0, 22), 3);
        Checks.due("ON, and MODE", x.memory(0, 0xA000), 0x21);
        Checks.due("bank 0", x.saved(0, 0), 0);
        Checks.due("bank 3", x.saved(0, 3 * 8192), 0x21);
    }

    private static void clockDots() {
        long second = 4194304;
        for (int late = 0; late < 2; late++) {
            long end = second - 4 + 4 * late;
            HandheldPair x = new Rom().kind(0x10, 0).poke(0, 10).poke(0x4000, 8).poke(0x6000, 0).spend(end - 16 - 4 * 24).poke(0x6000, 1).stay().start();
            Go.toTime(x, 1000000);
            x.keep(0);
            Go.toTime(x, 1500000);
            x.take(0);
            Go.toTime(x, end);
            Checks.due("the second at its DOT", x.memory(0, 0xA000), late);
        }
    }

    private static void clockRegisters() {
        Rom rom = new Rom().kind(0x10, 0).poke(0, 10).poke(0x4000, 9).poke(0xA000, 7).nops(20).poke(0x6000, 0).poke(0x6000, 1).nops(20).poke(0xA000, 9).stay();
        HandheldPair x = takenBack(rom, 16 + 3 * 24 + 40, 600);
        Checks.due("LATCHED minutes", x.memory(0, 0xA000), 7);
        x.run(40 + 48 + 40);
        Checks.due("the clock's own minutes", x.memory(0, 0xA000), 7);
        x.run(100);
        Checks.due("it goes on", x.memory(0, 0xA000), 9);
    }

    private static void timerWait() {
        Rom rom = new Rom().ldh(0x0F, 0).ldh(6, 0x44).ldh(7, 5).ldh(5, 0xFF).code(0x76);
        HandheldPair x = takenBack(rom, 112, 400);
        Checks.due("TIMA", x.memory(0, 0xFF05), 0);
        Checks.due("IF", x.memory(0, 0xFF0F), 0xE0);
        x.run(4);
        Checks.due("TMA", x.memory(0, 0xFF05), 0x44);
        Checks.due("IF", x.memory(0, 0xFF0F), 0xE4);
        HandheldPair y = takenBack(rom, 104, 112);
        y.run(4);
        Checks.due("no WAIT then", y.memory(0, 0xFF05), 0xFF);
    }

    private static void cableOfColours() {
        HandheldPair x = new Rom().colour().nops(20).ldh(2, 0x83).code(0x76).start();
        x.run(40);
        x.keep(0);
        new Rom().nops(20).ldh(2, 0x83).code(0x76).insertInto(x, 0);
        x.run(40);
        x.keep(1);
        x.take(0);
        x.run(76 + 16);
        Checks.due("16 CLOCKS a bit", x.about(0, 25), 7);
        Checks.due("SC", x.memory(0, 0xFF02), 0xFF);
        x.take(1);
        x.run(200);
        Checks.due("512 CLOCKS a bit", x.about(0, 25), 8);
    }

    /** Two COPIES from HIGH memory, of the pages $C0 and $C1, 171 M-CYCLES apart. */
    private static Rom copies() {
        Rom rom = new Rom(0x800).ldh(0x40, 0).poke(0xC000, 0x11).poke(0xC09F, 0x12).poke(0xC100, 0x21).poke(0xC19F, 0x22);
        int[] code = {0xE0, 0x46, 0x3C, 0x06, 0x29, 0x05, 0x20, 0xFD, 0xE0, 0x46, 0x06, 0x29, 0x05, 0x20, 0xFD, 0x18, 0xFE};
        for (int i = 0; i < code.length; i++) {
            rom.ldh(0x80 + i, code[i]);
        }
        return rom.code(0x3E, 0xC0, 0xC3, 0x80, 0xFF);
    }

    private static final int COPY_BEGINS = 16 + 20 + 4 * 24 + 17 * 20 + 24 + 12;

    private static void copyThatIsToCome() {
        HandheldPair x = takenBack(copies(), COPY_BEGINS, COPY_BEGINS + 2000);
        Checks.due("all are to come", x.about(0, 23), 160);
        x.run(4);
        Checks.due("none came", x.about(0, 23), 160);
        x.run(8);
        Checks.due("two came", x.about(0, 23), 158);
        HandheldPair y = takenBack(copies(), COPY_BEGINS - 12, COPY_BEGINS);
        Checks.due("none was to come then", y.about(0, 23), 0);
        y.keep(1);
        y.power(0);
        y.take(1);
        y.run(16);
        Checks.due("the write comes again", y.about(0, 23), 160);
    }

    private static void copySource() {
        HandheldPair x = takenBack(copies(), COPY_BEGINS + 200, COPY_BEGINS + 800);
        Checks.due("midway", x.about(0, 23) > 100 ? 1 : 0, 1);
        x.run(455);
        Checks.due("it is done", x.about(0, 23), 0);
        Checks.due("the first byte", x.memory(0, 0xFE00), 0x11);
        Checks.due("the last byte", x.memory(0, 0xFE9F), 0x12);
        x.run(1000);
        Checks.due("then the second COPY", x.memory(0, 0xFE9F), 0x22);
    }

    private static Rom block(Rom rom, int source, int goal, int v) {
        return rom.ldh(0x51, source >> 8).ldh(0x52, source).ldh(0x53, goal >> 8).ldh(0x54, goal).ldh(0x55, v);
    }

    private static Rom data() {
        Rom rom = new Rom(0x1000).colour();
        for (int i = 0; i < 128; i++) {
            rom.put(0x800 + i, 0x21 + i).put(0x900 + i, 0x81);
        }
        return rom;
    }

    private static void blockPlaces() {
        // Places are written, then nothing is done for 100 DOTS, then 55 is; other places come behind that.
        Rom rom = data().ldh(0x40, 0).ldh(0x51, 0x08).ldh(0x52, 0x10).ldh(0x53, 0x01).ldh(0x54, 0x20).nops(25).ldh(0x55, 0).nops(30);
        block(rom, 0x900, 0x500, 0).stay();
        HandheldPair x = takenBack(rom, 16 + 100 + 20, 900);
        x.run(120);
        Checks.due("from the first source", x.memory(0, 0x8120), 0x31);
        Checks.due("to the first goal", x.memory(0, 0x8500), 0);
        x.run(500);
        Checks.due("then the second", x.memory(0, 0x8500), 0x81);
    }

    private static void blockMidway() {
        Rom rom = block(block(data(), 0x800, 0x000, 0x82).spend(1500), 0x900, 0x500, 0x00).stay();
        HandheldPair x = takenBack(rom, 400, 2200);
        Checks.due("two are to come", x.about(0, 24), 2);
        Checks.due("55", x.memory(0, 0xFF55), 1);
        x.run(1000);
        Checks.due("all came", x.about(0, 24), 0);
        x.run(400);
        for (int i = 0; i < 60 && (x.memory(0, 0xFF41) & 3) == 3; i++) {
            x.run(12);
        }
        Checks.due("the first block", x.memory(0, 0x8000), 0x21);
        Checks.due("the third block", x.memory(0, 0x802F), 0x50);
        Checks.due("behind it", x.memory(0, 0x8030), 0);
        HandheldPair y = takenBack(block(block(data(), 0x800, 0, 0x82).ldh(0x55, 0x25).nops(20), 0x800, 0, 0x81).nops(300).stay(), 16 + 120 + 20, 500);
        Checks.due("55 as it was said", y.memory(0, 0xFF55), 0xA5);
    }

    private static void blockCyclesOwed() {
        Rom rom = block(data(), 0x800, 0x000, 0x82).code(0x76);
        HandheldPair x = takenBack(rom, 256, 300);
        x.run(1);
        Checks.due("8 idle M-CYCLES come before the next one", x.time(0), 256 + 36);
        HandheldPair y = takenBack(rom, 200, 256);
        y.run(1);
        Checks.due("none then", y.time(0), 204);
    }

    private static void memories() {
        Rom rom = new Rom(0x800).kind(3, 2).colour().ldh(0x40, 0).poke(0, 10).ldh(0x68, 5).ldh(0x6A, 6).ldh(0x69, 0x11).ldh(0x6B, 0x12).poke(0x8000, 0x13).poke(0xFE00, 0x14)
            .poke(0xC000, 0x15).poke(0xD000, 0x16).poke(0xA000, 0x17).ldh(0x80, 0x18).ldh(0x30, 0x19).nops(30)
            .ldh(0x69, 0x21).ldh(0x6B, 0x22).poke(0x8000, 0x23).poke(0xFE00, 0x24).poke(0xC000, 0x25).poke(0xD000, 0x26).poke(0xA000, 0x27).ldh(0x80, 0x28).ldh(0x30, 0x29)
            .ldh(0x68, 7).ldh(0x6A, 8).ldh(0x70, 2).ldh(0x4F, 1).stay();
        HandheldPair x = takenBack(rom, 16 + 7 * 20 + 6 * 24 + 60, 1000);
        int[][] want = {{0xFF69, 0x11}, {0xFF6B, 0x12}, {0x8000, 0x13}, {0xFE00, 0x14}, {0xC000, 0x15}, {0xD000, 0x16}, {0xA000, 0x17}, {0xFF80, 0x18}, {0xFF30, 0x19},
            {0xFF68, 0x45}, {0xFF6A, 0x46}, {0xFF70, 0xF8}, {0xFF4F, 0xFE}};
        for (int[] w : want) {
            Checks.due("at " + Integer.toHexString(w[0]), x.memory(0, w[0]), w[1]);
        }
        Checks.due("RAM", x.saved(0, 0), 0x17);
        x.run(700);
        Checks.due("it goes on", x.memory(0, 0xC000), 0x25);
    }

    private static final int STAGE_DOTS = 16 + 80 + 28 + 16 * 24 - 4;

    /** Line 0 has a sprite at its right end; the lines behind it have none. */
    private static void chosenSprites() {
        Stage stage = new Stage(false).sprite(0, 9, 160, 1, 0);
        int on = STAGE_DOTS + 4 * 24 + 20;
        HandheldPair x = takenBack(stage.rom.ldh(0x40, 0x93).code(0x76), on + 120, on + 456 * 3);
        x.run(200);
        Stage.due("drawn all the same", x, 155, 0, 3);
        // Taken back from a line that has another one.
        Stage two = new Stage(false).sprite(5, 9, 160, 1, 0).sprite(0, 30, 80, 1, 0);
        int later = on + 4 * 24;
        HandheldPair z = takenBack(two.rom.ldh(0x40, 0x93).code(0x76), later + 120, later + 16 * 456 + 120);
        z.run(200);
        Stage.due("the sprite of line 0", z, 155, 0, 3);
        // Taken back from a line that has one: then none is drawn in a line without.
        Stage other = new Stage(false).sprite(0, 17, 160, 1, 0);
        HandheldPair y = takenBack(other.rom.ldh(0x40, 0x93).code(0x76), on + 120, on + 456 + 120);
        y.run(200);
        Stage.due("none in line 0", y, 155, 0, 0);
    }

    /** F is of dot 80 of the line: SCX changes behind it. */
    private static void fineScroll() {
        Rom rom = new Rom().ldh(0x43, 7).ldh(0x47, 3).nops(12).ldh(0x43, 0).code(0x76);
        HandheldPair x = takenBack(rom, 140, 1000);
        x.run(116);
        Checks.due("mode 3 at 256", x.memory(0, 0xFF41) & 3, 3);
        x.run(4);
        Checks.due("mode 0 at 260", x.memory(0, 0xFF41) & 3, 0);
        HandheldPair y = new Rom().ldh(0x43, 7).nops(26).ldh(0x43, 0).nops(100).ldh(0x43, 7).code(0x76).start();
        Go.toTime(y, 456 + 100);
        y.keep(0);
        Go.toTime(y, 1500);
        y.take(0);
        Go.toTime(y, 456 + 256);
        Checks.due("line 1 has F 0", y.memory(0, 0xFF41) & 3, 0);
    }

    /** The window was drawn in this line, and is no more. */
    private static void windowOfTheLine() {
        Rom rom = new Rom().ldh(0x4B, 7).ldh(0x40, 0xB1).nops(15).ldh(0x40, 0x91).code(0x76);
        HandheldPair x = takenBack(rom, 200, 456 * 3);
        Checks.due("WINDOW", x.about(0, 15), 0);
        Go.toTime(x, 460);
        Checks.due("WINDOW", x.about(0, 15), 1);
        // Kept in a line without the window, taken back from one with it.
        Rom other = new Rom().ldh(0x4B, 7).spend(500 - 36).ldh(0x40, 0xB1).code(0x76);
        HandheldPair y = takenBack(other, 300, 456 + 200);
        Go.toTime(y, 460);
        Checks.due("WINDOW", y.about(0, 15), 0);
    }

    /** It is up when the state is kept, and down when it is taken back: no rise by that. */
    private static void statLine() {
        Rom rom = new Rom().ldh(0x45, 0).ldh(0x41, 0x40).ldh(0x0F, 0).code(0x76);
        HandheldPair x = takenBack(rom, 200, 1000);
        Checks.due("IF", x.memory(0, 0xFF0F), 0xE0);
        x.run(100);
        Checks.due("no rise", x.memory(0, 0xFF0F), 0xE0);
        Rom other = new Rom().ldh(0x45, 1).ldh(0x41, 0x40).ldh(0x0F, 0).code(0x76);
        HandheldPair y = takenBack(other, 400, 600);
        Checks.due("IF", y.memory(0, 0xFF0F), 0xE0);
        y.run(100);
        Checks.due("the rise comes again", y.memory(0, 0xFF0F), 0xE2);
    }

    private static void shadesAndColours() {
        HandheldPair x = new Stage(true).fill(0x9800, 1, 32).colour(0x68, 3, 0x1234).shown(0x91);
        x.keep(0);
        new Rom().ldh(0x47, 1).stay().insertInto(x, 0);
        x.run(80000);
        x.keep(1);
        x.take(0);
        x.run(75000);
        Stage.due("colours", x, 0, 0, 0x1234);
        x.take(1);
        Stage.due("shades", x, 0, 0, 1);
        x.run(75000);
        Stage.due("shades", x, 0, 0, 1);
    }

    /** STEPS, lengths, envelopes and sweeps go on as they did. */
    private static void stepsOfSound() {
        for (int steps = 1; steps < 9; steps++) {
            Rom rom = new Rom().ldh(0x17, 0xF0).ldh(0x16, 0x3F - 4).ldh(0x19, 0xC0).code(0x76);
            HandheldPair x = takenBack(rom, steps * 8192 + 1000, steps * 8192 + 1000 + (steps * 5 % 7 + 1) * 8192);
            Go.toTime(x, 9 * 8192 - 4);
            Checks.due("ON", x.memory(0, 0xFF26), 0xF2);
            Go.toTime(x, 9 * 8192);
            Checks.due("not ON", x.memory(0, 0xFF26), 0xF0);
        }
    }

    /** Channel 4's LEVEL that is not 0, within some DOTS. */
    private static int volume(HandheldPair x) {
        int volume = 0;
        for (int i = 0; i < 40; i++) {
            int level = x.about(0, 19);
            volume = level != 0 ? level : volume;
            x.run(8);
        }
        return volume;
    }

    /** A pace of 3: kept behind the first of three, taken back behind the second and behind the third. */
    private static void envelopeMidway() {
        Rom rom = new Rom().ldh(0x22, 8).ldh(0x21, 0x73).ldh(0x23, 0x80).code(0x76);
        for (int more = 1; more < 3; more++) {
            HandheldPair x = takenBack(rom, 65536 + 1000, 65536 * (1 + more) + 1000);
            Go.toTime(x, 2 * 65536 + 1000);
            Checks.due("behind the second", volume(x), 7);
            Go.toTime(x, 3 * 65536 + 1000);
            Checks.due("behind the third", volume(x), 6);
        }
    }

    private static void sweepMidway() {
        // 900, 1350, then beyond at the second sweep: kept before the first, and behind it.
        Rom rom = new Rom().ldh(0x10, 0x11).ldh(0x12, 0xF0).ldh(0x13, 900 & 255).ldh(0x14, 0x80 | 900 >> 8).code(0x76);
        for (int steps = 1; steps < 7; steps += 4) {
            HandheldPair x = takenBack(rom, steps * 8192, 6 * 8192 + steps * 4096);
            Go.toTime(x, 7 * 8192 - 4);
            Checks.due("ON", x.memory(0, 0xFF26), 0xF1);
            x.run(4);
            Checks.due("not ON", x.memory(0, 0xFF26), 0xF0);
        }
        // A pace of 3: kept behind the first of three, taken back behind the second.
        Rom slow = new Rom().ldh(0x10, 0x31).ldh(0x12, 0xF0).ldh(0x13, 1000 & 255).ldh(0x14, 0x80 | 1000 >> 8).code(0x76);
        HandheldPair y = takenBack(slow, 4 * 8192, 8 * 8192);
        Go.toTime(y, 11 * 8192 - 4);
        Checks.due("ON", y.memory(0, 0xFF26), 0xF1);
        y.run(4);
        Checks.due("not ON", y.memory(0, 0xFF26), 0xF0);
        // Triggered anew without a sweep, behind the state: it counts again when that is taken back.
        Rom anew = new Rom().ldh(0x10, 0x11).ldh(0x12, 0xF0).ldh(0x13, 1000 & 255).ldh(0x14, 0x80 | 1000 >> 8).spend(4 * 8192).ldh(0x10, 0).ldh(0x14, 0x83).code(0x76);
        HandheldPair z = takenBack(anew, 8192, 5 * 8192);
        Go.toTime(z, 3 * 8192);
        Checks.due("not ON", z.memory(0, 0xFF26), 0xF0);
        Rom other = new Rom().ldh(0x12, 0xF0).ldh(0x13, 1000 & 255).ldh(0x14, 0x83).ldh(0x10, 0x11).spend(5 * 8192).ldh(0x14, 0x83).code(0x76);
        HandheldPair w = takenBack(other, 4000, 5 * 8192 + 4000);
        Go.toTime(w, 4 * 8192);
        Checks.due("it did not count then", w.memory(0, 0xFF26), 0xF1);
    }

    private static void keysAndHalves() {
        HandheldPair x = new Rom().ldh(0, 0x20).nops(20).ldh(0, 0x10).stay().start();
        x.keys(0, 0x81);
        x.keys(1, 0x0F);
        x.run(60);
        x.keep(0);
        x.keys(0, 0);
        x.keys(1, 0xF0);
        x.run(300);
        Checks.due("P1", x.memory(0, 0xFF00), 0xDF);
        x.take(0);
        Checks.due("P1", x.memory(0, 0xFF00), 0xEE);
        new Rom().stay().insertInto(x, 1);
        Checks.due("keys of the one that was OFF", x.memory(1, 0xFF00), 0xC0);
    }

    private static void goalAndTimes() {
        HandheldPair x = new Rom().stay().start();
        x.run(50);
        x.keep(1);
        long time = x.time(0);
        new Rom().stay().insertInto(x, 1);
        x.run(80000);
        x.take(1);
        Checks.due("GOAL", x.count(1), 50);
        Checks.due("TIME 0", x.time(0), time);
        Checks.due("TIME 1", x.time(1), 0);
        Checks.due("OFF", x.about(1, 9), 0);
        Checks.due("GOAL goes on from there", x.run(2), 0);
        Checks.due("GOAL", x.count(1), 52);
        Checks.due("TIME is GOAL: nothing", x.time(0), 52);
        Checks.due("one more", x.run(1), 1);
    }

    /** THE TAPE, refusals, what is kept, and count(2) aside. */
    private static void asideStays() {
        HandheldPair x = new Rom().put(0x100, 0x76).start();
        x.run(40);
        x.end(100);
        x.keep(0);
        x.run(40);
        x.feed(-1, -1, -1, -1, -1);
        x.keep(1);
        Checks.dueThrow("refused", UnsupportedOperationException.class, () -> x.insert(1));
        x.end(0x150);
        x.patch(0x10, 0x5A, true);
        x.take(0);
        Checks.due("the tape's length", x.count(0), 0x150);
        Checks.due("the refusal", x.refused(), 1);
        Checks.due("steps of all runs", x.count(2), 20);
        Checks.due("the tape is whole", x.insert(1), 2);
        Checks.due("its bytes", x.memory(1, 0x10), 0x5A);
        x.take(1);
        Checks.due("the other state is kept still", x.count(1), 80);
        Checks.due("steps of all runs", x.count(2), 20);
    }

    /** Taken as often as one likes; kept anew, it is the new one. */
    private static void keptStaysKept() {
        HandheldPair x = new Rom().put(0x100, 0x76).start();
        x.run(40);
        x.keep(0);
        for (int i = 0; i < 3; i++) {
            x.run(100 + i);
            x.take(0);
            Checks.due("TIME", x.time(0), 40);
        }
        x.run(60);
        x.keep(0);
        x.run(60);
        x.take(0);
        Checks.due("TIME", x.time(0), 100);
    }

    private static void offAndOn() {
        HandheldPair x = new HandheldPair();
        x.run(30);
        x.keep(0);
        new Rom().kind(3, 2).put(0x100, 0x76).insertInto(x, 0);
        x.run(40);
        x.keep(1);
        x.take(0);
        Checks.due("OFF", x.about(0, 9), 0);
        Checks.due("OFF", x.run(1000), 0);
        Checks.dueThrow("OFF: saved", IndexOutOfBoundsException.class, () -> x.saved(0, 0));
        Checks.due("TIME", x.time(0), 0);
        x.take(1);
        Checks.due("on", x.about(0, 9), 0x101);
        Checks.due("on: saved", x.saved(0, 8191), 0);
        Checks.due("TIME", x.time(0), 70);
        Checks.dueThrow("refused", UnsupportedOperationException.class, () -> x.insert(0));
        x.take(1);
        Checks.due("on again", x.run(40), 10);
    }
}
