/** Promises 9 to 11: four channels of sound, LEVELS and HEARD. */
public final class SoundTest {
    private static final int STEP_DOTS = 8192;

    public static void main(String[] args) {
        squares();
        wave();
        noise();
        lengths();
        envelopes();
        sweepGoesOn();
        sweepGoesBeyond();
        dac();
        offAndOn();
        stepsByOtherCauses();
        fastSteps();
        heard();
        Checks.end("SoundTest");
    }

    private static HandheldPair halted(Rom rom) {
        return rom.code(0x76).start();
    }

    /** Runs until TIME is goal, which is a multiple of 4. */
    private static void runTo(HandheldPair x, long goal) {
        while (x.count(1) < goal) {
            x.run((int) Math.min(80000, goal - x.count(1)));
        }
    }

    private static void squares() {
        int[] duties = {0b10000000, 0b10000001, 0b11100001, 0b01111110};
        for (int channel = 0; channel < 2; channel++) {
            int base = channel == 0 ? 0x10 : 0x15;
            for (int duty = 0; duty < 4; duty++) {
                // Frequency 2040: a position lasts 32 DOTS. Turned off and on, positions are 0.
                HandheldPair x = halted(new Rom().ldh(0x26, 0).ldh(0x26, 0x80).ldh(base + 1, duty << 6)
                    .ldh(base + 2, 0xB0).ldh(base + 3, 0xF8).ldh(base + 4, 0x87));
                int begin = 16 + 6 * 20;
                runTo(x, begin - 12);
                Checks.due("not ON", x.about(0, 16 + channel), 0);
                runTo(x, begin);
                Checks.due("ON", x.memory(0, 0xFF26), 0xF0 | 1 << channel);
                for (int dots = 0; dots < 600; dots += 4) {
                    Checks.due("LEVEL at " + dots, x.about(0, 16 + channel), 11 * (duties[duty] >> dots / 32 % 8 & 1));
                    x.run(4);
                }
            }
        }
        // At POWER ON all positions are 0 and PERIODS too: the first DOT makes them 1.
        HandheldPair x = halted(new Rom().ldh(0x16, 0xC0).ldh(0x17, 0x10).ldh(0x18, 0).ldh(0x19, 0x80));
        runTo(x, 96);
        Checks.due("position 1 of duty 3", x.about(0, 17), 1);
        // The trigger comes 4 DOTS before, with, and behind the 49,152nd DOT, which makes position 7.
        for (int late = 0; late < 3; late++) {
            Rom rom = new Rom().ldh(0x16, 0).ldh(0x17, 0xC0).code(0x01, 0xD8, 0x06, 0x0B, 0x78, 0xB1, 0x20, 0xFB).nops(2 + late).ldh(0x19, 0x80);
            HandheldPair y = halted(rom);
            runTo(y, 49148 + 4 * late);
            Checks.due("ON", on(y), 2);
            Checks.due("TIME", y.time(0), 49148 + 4 * late);
            Checks.due("position 7 of duty 0", y.about(0, 17), late == 0 ? 0 : 12);
        }
    }

    private static void wave() {
        int[] shifts = {4, 0, 1, 2};
        for (int code = 0; code < 4; code++) {
            Rom rom = new Rom();
            for (int i = 0; i < 16; i++) {
                rom.ldh(0x30 + i, (i * 0x37 + 0x5B) & 255);
            }
            HandheldPair x = halted(rom.ldh(0x1A, 0x80).ldh(0x1C, code << 5).ldh(0x1D, 0xF0).ldh(0x1E, 0x87));
            runTo(x, 16 + 20 * 20);
            for (int dots = 0; dots < 1200; dots += 8) {
                int position = dots / 32 % 32;
                int both = (position / 2 * 0x37 + 0x5B) & 255;
                int half = position % 2 == 0 ? both / 16 : both % 16;
                Checks.due("LEVEL at " + dots, x.about(0, 18), half >> shifts[code]);
                x.run(8);
            }
        }
    }

    private static void noise() {
        int[] bases = {8, 16, 32, 48, 64, 80, 96, 112};
        for (int code = 0; code < 8; code++) {
            boolean narrow = code % 2 == 1;
            int control = code | (narrow ? 8 : 0) | (code % 3) << 4;
            HandheldPair x = null;
            int period = bases[code] << code % 3;
            int noise = 0x7FFF;
            int left = period;
            for (int dots = 0; dots < 4000; dots += 4) {
                if (dots % 800 == 0) {
                    x = halted(new Rom().ldh(0x21, 0xA0).ldh(0x22, control).ldh(0x23, 0x80));
                    runTo(x, 76 + dots);
                }
                Checks.due("LEVEL at " + dots, x.about(0, 19), noise % 2 == 0 ? 10 : 0);
                x.run(4);
                left -= 4;
                if (left == 0) {
                    left = period;
                    int bit = noise % 2 ^ noise / 2 % 2;
                    noise = noise / 2 + bit * 0x4000;
                    if (narrow) {
                        noise = noise & ~0x40 | bit * 0x40;
                    }
                }
            }
        }
    }

    private static int on(HandheldPair x) {
        return x.memory(0, 0xFF26) & 15;
    }

    /** Writes that begin channel c (0 to 3) with a LENGTH, which counts or does not. */
    private static Rom begin(Rom rom, int c, int lengthByte, boolean counts) {
        int base = 0x10 + 5 * c;
        rom.ldh(c == 2 ? 0x1A : base + 2, 0xF0);
        if (lengthByte >= 0) {
            rom.ldh(base + 1, lengthByte);
        }
        return rom.ldh(base + 4, counts ? 0xC0 : 0x80);
    }

    private static void dueLength(int c, int lengthByte, int length) {
        HandheldPair x = halted(begin(new Rom(), c, lengthByte, true));
        // STEPS 0, 2, 4, 6 come at 1, 3, 5, .. times 8,192 DOTS.
        long end = (2L * length - 1) * STEP_DOTS;
        runTo(x, end - 4);
        Checks.due("ON before the end", on(x), 1 << c);
        runTo(x, end);
        Checks.due("not ON at the end", on(x), 0);
        HandheldPair y = halted(begin(new Rom(), c, lengthByte, false));
        runTo(y, end + 4);
        Checks.due("ON without bit 6", on(y), 1 << c);
    }

    private static void lengths() {
        for (int c = 0; c < 4; c++) {
            dueLength(c, 0xFF, 1);
            dueLength(c, 0xFD, 3);
            dueLength(c, -1, c == 2 ? 256 : 64);
        }
        dueLength(1, 0, 64);
        dueLength(2, 0xC0, 64);
        lengthBeginsAnew();
    }

    /** The first LENGTH goes with STEP 0; the trigger behind STEP 6 finds 0, and makes it 64. */
    private static void lengthBeginsAnew() {
        Rom rom = begin(new Rom(), 1, 0x3F, true).code(0x01, 0x00, 0x09, 0x0B, 0x78, 0xB1, 0x20, 0xFB).ldh(0x19, 0xC0);
        HandheldPair x = halted(rom);
        runTo(x, STEP_DOTS);
        Checks.due("not ON", on(x), 0);
        runTo(x, 8L * STEP_DOTS);
        Checks.due("ON again", on(x), 2);
        runTo(x, 8L * STEP_DOTS + 127L * STEP_DOTS - 4);
        Checks.due("ON until 64 went", on(x), 2);
        runTo(x, 8L * STEP_DOTS + 127L * STEP_DOTS);
        Checks.due("not ON again", on(x), 0);
    }

    /** STEP 7 comes every 65,536 DOTS; what channel 2, duty 3, reaches between two of them. */
    private static void dueVolume(int envelope, int steps, int want) {
        HandheldPair x = halted(new Rom().ldh(0x26, 0).ldh(0x26, 0x80).ldh(0x16, 0xC0).ldh(0x17, envelope).ldh(0x18, 0).ldh(0x19, 0x80));
        runTo(x, 65536L * steps + 144);
        int most = 0;
        for (int i = 0; i < 15; i++) {
            most = Math.max(most, x.about(0, 17));
            x.run(4096);
        }
        Checks.due("VOLUME of " + Integer.toHexString(envelope) + " behind " + steps, most, want);
    }

    private static void envelopes() {
        dueVolume(0x71, 0, 7);
        dueVolume(0x71, 1, 6);
        dueVolume(0x71, 3, 4);
        dueVolume(0x72, 1, 7);
        dueVolume(0x72, 2, 6);
        dueVolume(0x21, 4, 0);
        dueVolume(0x70, 3, 7);
        HandheldPair x = halted(new Rom().ldh(0x21, 0xE9).ldh(0x22, 0).ldh(0x23, 0x80));
        runTo(x, 65536L * 3 + 4);
        int most = 0;
        for (int i = 0; i < 100; i++) {
            most = Math.max(most, x.about(0, 19));
            x.run(8);
        }
        Checks.due("VOLUME stays within 15", most, 15);
    }

    private static HandheldPair sweeping(int sweep, int frequency) {
        return halted(new Rom().ldh(0x26, 0).ldh(0x26, 0x80).ldh(0x10, sweep).ldh(0x11, 0).ldh(0x12, 0xF0)
            .ldh(0x13, frequency).ldh(0x14, 0x80 | frequency >> 8));
    }

    private static void dueFrequency(String what, HandheldPair x, int steps, int frequency) {
        runTo(x, (long) steps * STEP_DOTS);
        dueAtPlace7(what, x, 4 * (2048 - frequency));
    }

    private static void sweepGoesOn() {
        // The sweep comes with STEPS 2 and 6, which end 3 and 7 times 8,192 DOTS.
        HandheldPair x = sweeping(0x12, 1024);
        dueFrequency("a fourth more", x, 3, 1280);
        dueFrequency("a fourth more", x, 7, 1600);
        HandheldPair y = sweeping(0x1A, 1900);
        dueFrequency("a fourth less", y, 3, 1425);
        dueFrequency("a fourth less", y, 7, 1069);
        HandheldPair z = sweeping(0x22, 1200);
        dueFrequency("every second time", z, 3, 1200);
        dueFrequency("every second time", z, 7, 1500);
        HandheldPair w = sweeping(0x02, 1200);
        dueFrequency("no pace", w, 7, 1200);
        HandheldPair v = sweeping(0x10, 900);
        dueFrequency("no shift: reckoned for going beyond alone", v, 8, 900);
        HandheldPair u = halted(new Rom().ldh(0x12, 0xF0).ldh(0x13, 0).ldh(0x14, 0x84).ldh(0x10, 0x12));
        dueFrequency("it does not count if both were 0 at the trigger", u, 40, 1024);
    }

    /** Channel 1 is at place 7, the only one of duty 0, for just so many DOTS; the state is taken back. */
    private static void dueAtPlace7(String what, HandheldPair x, int dots) {
        x.keep(0);
        int step = Math.max(4, dots / 8 * 4);
        for (int i = 0; i < 6 && x.about(0, 16) != 0; i++) {
            x.run(step);
        }
        x.keep(1);
        for (int i = 0; i < 40 && x.about(0, 16) == 0; i++) {
            x.keep(1);
            x.run(step);
        }
        // The rise lies within the last step: it is cut in halves.
        for (int left = step; left > 4; left -= left / 8 * 4) {
            x.take(1);
            x.run(left / 8 * 4);
            if (x.about(0, 16) == 0) {
                x.keep(1);
            }
        }
        x.take(1);
        x.run(4);
        Checks.due(what + ": it rises", x.about(0, 16) > 0 ? 1 : 0, 1);
        x.run(dots - 4);
        Checks.due(what + ": still", x.about(0, 16) > 0 ? 1 : 0, 1);
        x.run(4);
        Checks.due(what + ": it falls", x.about(0, 16), 0);
        x.take(0);
    }

    private static void dueSweepEnds(String what, int sweep, int frequency, long end) {
        HandheldPair x = halted(new Rom().ldh(0x10, sweep).ldh(0x12, 0xF0).ldh(0x13, frequency).ldh(0x14, 0x80 | frequency >> 8));
        runTo(x, 96);
        Checks.due(what + ": at once", on(x), end == 0 ? 0 : 1);
        if (end > 0) {
            runTo(x, end - 4);
            Checks.due(what + ": before", on(x), 1);
            runTo(x, end);
            Checks.due(what + ": then", on(x), 0);
        } else if (end < 0) {
            runTo(x, 300000);
            Checks.due(what + ": never", on(x), 1);
        }
    }

    private static void sweepGoesBeyond() {
        dueSweepEnds("reckoned at the trigger", 0x11, 2000, 0);
        dueSweepEnds("1365 + 682 is 2047", 0x01, 1365, -1);
        dueSweepEnds("1366 + 683 is 2049", 0x01, 1366, 0);
        dueSweepEnds("1821 + 227 is 2048", 0x03, 1821, 0);
        dueSweepEnds("once more behind the first", 0x11, 1000, 3L * STEP_DOTS);
        dueSweepEnds("no shift, a pace: 1500 doubled at STEP 2", 0x10, 1500, 3L * STEP_DOTS);
        dueSweepEnds("no shift, a pace: less", 0x18, 1500, -1);
        dueSweepEnds("no pace", 0x00, 2000, -1);
        dueSweepEnds("pace 3", 0x31, 1000, 11L * STEP_DOTS);
    }

    private static void dac() {
        int[] envelopes = {0x12, 0x17, 0x21};
        int[] channels = {0, 1, 3};
        for (int i = 0; i < 3; i++) {
            HandheldPair x = halted(begin(new Rom(), channels[i], -1, false).ldh(envelopes[i], 0x08).ldh(envelopes[i], 0x07).ldh(envelopes[i], 0xF0));
            runTo(x, 76);
            Checks.due("bit 3 is enough", on(x), 1 << channels[i]);
            runTo(x, 96);
            Checks.due("without it not ON", on(x), 0);
            runTo(x, 116);
            Checks.due("it does not come back by itself", on(x), 0);
        }
        HandheldPair x = halted(begin(new Rom(), 2, -1, false).ldh(0x1A, 0x7F));
        runTo(x, 56);
        Checks.due("channel 3", on(x), 4);
        runTo(x, 76);
        Checks.due("channel 3 without it", on(x), 0);
        HandheldPair y = halted(new Rom().ldh(0x14, 0x80).ldh(0x19, 0x80).ldh(0x1E, 0x80).ldh(0x23, 0x80));
        runTo(y, 96);
        Checks.due("none begins without it", on(y), 0);
    }

    private static void offAndOn() {
        HandheldPair x = halted(begin(new Rom().ldh(0x24, 0x77).ldh(0x25, 0xFF).ldh(0x30, 0xAB).ldh(0x10, 0x7F), 1, 0x40, true)
            .ldh(0x26, 0x7F).ldh(0x17, 0xF0).ldh(0x24, 0x55).ldh(0x31, 0xCD).ldh(0x26, 0x80));
        runTo(x, 16 + 20 * 7);
        Checks.due("ON", x.memory(0, 0xFF26), 0xF2);
        runTo(x, 16 + 20 * 8);
        Checks.due("off", x.memory(0, 0xFF26), 0x70);
        int[][] want = {{0x10, 0x80}, {0x16, 0x3F}, {0x17, 0}, {0x19, 0xBF}, {0x24, 0}, {0x25, 0}, {0x30, 0xAB}};
        for (int[] w : want) {
            Checks.due("off: " + Integer.toHexString(w[0]), x.memory(0, 0xFF00 + w[0]), w[1]);
        }
        runTo(x, 16 + 20 * 11);
        Checks.due("not written", x.memory(0, 0xFF17), 0);
        Checks.due("not written", x.memory(0, 0xFF24), 0);
        Checks.due("WAVE is written", x.memory(0, 0xFF31), 0xCD);
        runTo(x, 16 + 20 * 12);
        Checks.due("on", x.memory(0, 0xFF26), 0xF0);

        // PERIODS stand while it is off: of 8,192 DOTS some 5,000 go by on, and 7,000 off.
        HandheldPair w = halted(new Rom().ldh(0x26, 0).code(0x01, 250, 0, 0x0B, 0x78, 0xB1, 0x20, 0xFB).ldh(0x26, 0x80)
            .code(0x01, 180, 0, 0x0B, 0x78, 0xB1, 0x20, 0xFB).ldh(0x16, 0x40).ldh(0x17, 0xF0).ldh(0x19, 0x80));
        runTo(w, 13000);
        Checks.due("position 0 of duty 1", w.about(0, 17), 15);

        // STEP counts from 0 behind on: LENGTH 1 goes at the next STEP, even if STEP 1 were due.
        Rom rom = new Rom(0x2000).nops(0x900).code(0);
        HandheldPair y = halted(begin(rom.ldh(0x26, 0).ldh(0x26, 0x80), 1, 0x3F, true));
        runTo(y, 2L * STEP_DOTS - 4);
        Checks.due("ON", on(y), 2);
        runTo(y, 2L * STEP_DOTS);
        Checks.due("STEP 0", on(y), 0);
        HandheldPair z = halted(begin(new Rom(0x2000).nops(0x900).ldh(0x26, 0x80).ldh(0x26, 0x80), 1, 0x3F, true));
        runTo(z, 2L * STEP_DOTS);
        Checks.due("STEP 1", on(z), 2);
        runTo(z, 3L * STEP_DOTS);
        Checks.due("STEP 2", on(z), 0);
    }

    private static void stepsByOtherCauses() {
        // DIVIDER's bit 12 is set from 4,096 on: a write to 04 makes it fall.
        HandheldPair x = halted(begin(new Rom(0x1000), 1, 0x3F, true).nops(1100).ldh(4, 0));
        runTo(x, 76 + 4400);
        Checks.due("ON", on(x), 2);
        runTo(x, 76 + 4400 + 20);
        Checks.due("a STEP", on(x), 0);
        HandheldPair y = halted(begin(new Rom(0x1000), 1, 0x3F, true).nops(900).ldh(4, 0));
        runTo(y, 8000);
        Checks.due("bit 12 was not set", on(y), 2);
    }

    private static void fastSteps() {
        HandheldPair x = halted(begin(new Rom().colour().ldh(0x4D, 1).code(0x10, 0), 1, 0x3F, true));
        // STOP ends at 40 with DIVIDER 0; bit 13 falls at 16,384 CLOCKS, which are 8,192 DOTS.
        runTo(x, 40 + STEP_DOTS - 2);
        Checks.due("ON", on(x), 2);
        runTo(x, 40 + STEP_DOTS);
        Checks.due("a STEP", on(x), 0);
    }

    private static void heard() {
        // Channel 3 with WAVE all $FF is 15 always; left by channel 3, right by 3 and 4.
        Rom rom = new Rom();
        for (int i = 0; i < 16; i++) {
            rom.ldh(0x30 + i, 0xFF);
        }
        HandheldPair x = halted(rom.ldh(0x1A, 0x80).ldh(0x1C, 0x20).ldh(0x24, 0x52).ldh(0x25, 0x4C).ldh(0x1E, 0x80));
        int begin = 16 + 21 * 20;
        runTo(x, 4096);
        int want = 0;
        for (int dots = 64; dots <= 4096; dots += 64) {
            boolean sounds = dots > begin;
            want = want * 31 + (sounds ? 15 * 6 * 512 + 15 * 3 : 0);
        }
        Checks.due("HEARD", x.about(0, 20), want);
        x.run(60);
        Checks.due("not before the 64th", x.about(0, 20), want);
        x.run(4);
        Checks.due("at the 64th", x.about(0, 20), want * 31 + 15 * 6 * 512 + 15 * 3);
        HandheldPair y = halted(begin(new Rom().ldh(0x24, 0xFF).ldh(0x25, 0xDD), 1, 0xC0, false));
        runTo(y, 64 * 100);
        Checks.due("the others alone", y.about(0, 20), 0);
        HandheldPair z = halted(begin(new Rom().ldh(0x24, 0x88).ldh(0x25, 0x20), 1, 0xC0, false));
        runTo(z, 128);
        Checks.due("left alone", z.about(0, 20), 15 * 512);
    }
}
