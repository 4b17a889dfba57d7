/** Promises 9 to 11: lengths, volumes, sweeps and periods at their limits, and sound turned off and on. */
public final class SoundEdgeTest {
    private static final int STEP = 8192;

    public static void main(String[] args) {
        lengthsAtTheirLimits();
        lengthOfNone();
        lengthWithoutDac();
        lengthCountsOnlyWithItsBit();
        lengthStaysWhileOff();
        triggerNeedsBitSeven();
        volumeAtFifteen();
        volumeAtZero();
        envelopeOfPaceSeven();
        envelopeWithoutPace();
        sweepBeyond2047();
        sweepDownToZero();
        sweepPaceZeroIsEight();
        sweepLeavesBitSix();
        sweepCountsByItsRegisterAtTheTrigger();
        shortestAndLongestPeriods();
        positionsRunOver();
        wavePositionsRunOver();
        noiseAtItsLimits();
        dacBits();
        waveDac();
        stepsRunOver();
        offAndNotWritten();
        onBeginsAtStepZero();
        heardIsThirtyTwoBits();
        heardOfAllChannels();
        envelopesOfThree();
        heardOfEach();
        heardAtTheStep();
        heardWhileOff();
        heardWithinAnMCycle();
        sweepAtItsDot();
        powerBeginsAnew();
        Checks.end("SoundEdgeTest");
    }

    private static HandheldPair halted(Rom rom) {
        return rom.code(0x76).start();
    }

    private static int on(HandheldPair x) {
        return x.memory(0, 0xFF26) & 15;
    }

    private static int base(int channel) {
        return 0x10 + 5 * channel;
    }

    /** Its DAC, its length's byte, and the trigger with or without bit 6: three writes. */
    private static Rom begin(Rom rom, int channel, int length, int trigger) {
        rom.ldh(channel == 2 ? 0x1A : base(channel) + 2, 0xF0);
        return rom.ldh(base(channel) + 1, length).ldh(base(channel) + 4, trigger);
    }

    /** It is ON until just this LENGTH-th of STEPS 0, 2, 4, 6. */
    private static void dueLength(int channel, int byteOfLength, int length) {
        HandheldPair x = halted(begin(new Rom(), channel, byteOfLength, 0xC0));
        long end = (2L * length - 1) * STEP;
        Go.toTime(x, end - 4);
        Checks.due("channel " + channel + " of " + byteOfLength + ": ON", on(x), 1 << channel);
        x.run(4);
        Checks.due("channel " + channel + " of " + byteOfLength + ": not ON", on(x), 0);
    }

    /** 64 less (v & 63); 1B: 256 less v. */
    private static void lengthsAtTheirLimits() {
        int[] channels = {0, 1, 3};
        for (int channel : channels) {
            dueLength(channel, 0x3F, 1);
            dueLength(channel, 0x00, 64);
            dueLength(channel, 0x40, 64);
            dueLength(channel, 0xFE, 2);
        }
        dueLength(2, 0xFF, 1);
        dueLength(2, 0xFE, 2);
        dueLength(2, 0x00, 256);
        dueLength(2, 0x3F, 193);
    }

    /** LENGTH 0 becomes 64 (3: 256); one that is above 0 stays. */
    private static void lengthOfNone() {
        for (int channel = 0; channel < 4; channel++) {
            // LENGTH 1 ends with STEP 0; the second trigger comes behind STEP 1.
            HandheldPair x = halted(begin(new Rom(), channel, 0xFF, 0xC0).spend(2 * STEP).ldh(base(channel) + 4, 0xC0));
            Go.toTime(x, STEP);
            Checks.due("LENGTH 0", on(x), 0);
            int full = channel == 2 ? 256 : 64;
            long end = (2L * full + 1) * STEP;
            Go.toTime(x, end - 4);
            Checks.due("channel " + channel + ": ON", on(x), 1 << channel);
            x.run(4);
            Checks.due("channel " + channel + ": not ON", on(x), 0);
            HandheldPair y = halted(begin(new Rom(), channel, 0xFE, 0xC0).spend(2 * STEP).ldh(base(channel) + 4, 0xC0));
            Go.toTime(y, 3 * STEP - 4);
            Checks.due("LENGTH 1 stays 1", on(y), 1 << channel);
            y.run(4);
            Checks.due("LENGTH 1 stays 1", on(y), 0);
        }
    }

    /** A trigger without a DAC is not ON, but LENGTH 0 becomes 64, and counts. */
    private static void lengthWithoutDac() {
        HandheldPair x = halted(new Rom().ldh(0x19, 0xC0).spend(4 * STEP).ldh(0x17, 0xF0).ldh(0x19, 0xC0));
        Go.toTime(x, 3 * STEP);
        Checks.due("not ON", on(x), 0);
        // STEPS 0 and 2 took two of them before the second trigger, so that 62 are left.
        long end = (2L * 64 - 1) * STEP;
        Go.toTime(x, end - 4);
        Checks.due("ON", on(x), 2);
        x.run(4);
        Checks.due("not ON", on(x), 0);
    }

    private static void lengthCountsOnlyWithItsBit() {
        for (int channel = 0; channel < 4; channel++) {
            HandheldPair y = halted(begin(new Rom(), channel, 0xFF, 0xBF));
            y.run(3 * STEP);
            Checks.due("all bits but bit 6", on(y), 1 << channel);
        }
        HandheldPair x = halted(begin(new Rom(), 1, 0x3F, 0x80).spend(4 * STEP).ldh(0x19, 0x40));
        Go.toTime(x, 5 * STEP - 4);
        Checks.due("ON", on(x), 2);
        x.run(4);
        Checks.due("bit 6 came later, without bit 7", on(x), 0);
    }

    /** A write with bit 7; all others begin nothing, and leave PERIOD and VOLUME as they are. */
    private static void triggerNeedsBitSeven() {
        int[] values = {0x00, 0x01, 0x07, 0x40, 0x7F};
        for (int channel = 0; channel < 4; channel++) {
            for (int v : values) {
                HandheldPair x = halted(begin(new Rom(), channel, 0, v));
                x.run(76);
                Checks.due("channel " + channel + " by " + v, on(x), 0);
            }
            HandheldPair x = halted(begin(new Rom(), channel, 0, 0x80));
            x.run(76);
            Checks.due("channel " + channel + " by $80", on(x), 1 << channel);
        }
        // The envelope is changed behind the trigger: VOLUME stays until the next one.
        HandheldPair x = halted(new Rom().ldh(0x22, 8).ldh(0x21, 0x50).ldh(0x23, 0x80).ldh(0x21, 0x90).ldh(0x23, 0x00));
        x.run(200);
        Checks.due("VOLUME", volume(x), 5);
        HandheldPair y = halted(new Rom().ldh(0x22, 8).ldh(0x21, 0x50).ldh(0x23, 0x80).ldh(0x21, 0x90).ldh(0x23, 0x80));
        y.run(200);
        Checks.due("VOLUME", volume(y), 9);
    }

    /** Off: LENGTHS stay; the length's register is not written. */
    private static void lengthStaysWhileOff() {
        for (int channel = 0; channel < 4; channel++) {
            Rom rom = new Rom().ldh(base(channel) + 1, 0xFF).ldh(0x26, 0).ldh(base(channel) + 1, 0).ldh(0x26, 0x80)
                .ldh(channel == 2 ? 0x1A : base(channel) + 2, 0xF0).ldh(base(channel) + 4, 0xC0);
            HandheldPair x = halted(rom);
            x.run(STEP - 4);
            Checks.due("ON", on(x), 1 << channel);
            x.run(4);
            Checks.due("LENGTH 1 stayed", on(x), 0);
        }
    }

    /** What channel 4 tells while NOISE's bit 0 is 0: the one LEVEL within some DOTS that is not 0. */
    private static int volume(HandheldPair x) {
        int volume = 0;
        for (int i = 0; i < 60; i++) {
            int level = x.about(0, 19);
            volume = level != 0 ? level : volume;
            x.run(8);
        }
        return volume;
    }

    /** Channel 4 with this envelope, behind so many STEPS 7. */
    private static void dueVolume(int envelope, int steps, int want) {
        HandheldPair x = halted(new Rom().ldh(0x21, envelope).ldh(0x22, 0).ldh(0x23, 0x80));
        Go.toTime(x, 65536L * steps + 200);
        Checks.due("VOLUME of " + Integer.toHexString(envelope) + " behind " + steps, volume(x), want);
    }

    /** Within 0 .. 15. */
    private static void volumeAtFifteen() {
        dueVolume(0xE9, 0, 14);
        dueVolume(0xE9, 1, 15);
        dueVolume(0xE9, 2, 15);
        dueVolume(0xF9, 1, 15);
        dueVolume(0xF9, 3, 15);
    }

    private static void volumeAtZero() {
        dueVolume(0x21, 1, 1);
        dueVolume(0x21, 2, 0);
        dueVolume(0x21, 3, 0);
        dueVolume(0x09, 0, 0);
        dueVolume(0x09, 1, 1);
        dueVolume(0x11, 2, 0);
    }

    private static void envelopeOfPaceSeven() {
        dueVolume(0x87, 6, 8);
        dueVolume(0x87, 7, 7);
        dueVolume(0x8F, 6, 8);
        dueVolume(0x8F, 7, 9);
        dueVolume(0x8A, 1, 8);
        dueVolume(0x8A, 2, 9);
        dueVolume(0x8A, 4, 10);
    }

    private static void envelopeWithoutPace() {
        dueVolume(0x88, 5, 8);
        dueVolume(0x80, 5, 8);
    }

    private static HandheldPair sweeping(int sweep, int frequency) {
        return halted(new Rom().ldh(0x10, sweep).ldh(0x12, 0xF0).ldh(0x13, frequency).ldh(0x14, 0x80 | frequency >> 8));
    }

    /** Not ON at 96, the trigger; or at just this STEP; or never, if 0. */
    private static void dueSweep(String what, int sweep, int frequency, int steps) {
        HandheldPair x = sweeping(sweep, frequency);
        x.run(96);
        Checks.due(what + ": at the trigger", on(x), steps < 0 ? 0 : 1);
        if (steps == 0) {
            Go.toTime(x, 40L * STEP);
            Checks.due(what + ": never", on(x), 1);
        } else if (steps > 0) {
            Go.toTime(x, (long) steps * STEP - 4);
            Checks.due(what + ": before", on(x), 1);
            x.run(4);
            Checks.due(what + ": then", on(x), 0);
        }
    }

    /** Above 2047: 1 is not ON; at 2047 it is. */
    private static void sweepBeyond2047() {
        dueSweep("1365 + 682 is 2047", 0x01, 1365, 0);
        dueSweep("1366 + 683 is 2049", 0x01, 1366, -1);
        dueSweep("2032 + 15 is 2047", 0x07, 2032, 0);
        dueSweep("2033 + 15 is 2048", 0x07, 2033, -1);
        dueSweep("2047 + 15", 0x07, 2047, -1);
        dueSweep("2047 less 15", 0x0F, 2047, 0);
        dueSweep("no shift: not reckoned at the trigger", 0x00, 2047, 0);
        dueSweep("no shift, pace 1: 1023 doubled is 2046", 0x10, 1023, 0);
        dueSweep("no shift, pace 1: 1024 doubled is 2048", 0x10, 1024, 3);
        dueSweep("1000, 1500, then 2250", 0x11, 1000, 3);
        dueSweep("900, 1350, then 2025, at the next one beyond", 0x11, 900, 7);
        dueSweep("a pace of 2: STEPS 2 and 6", 0x21, 1000, 7);
        dueSweep("a pace of 7", 0x71, 1000, 27);
        dueSweep("a pace of 2, twice", 0x21, 900, 15);
        dueSweep("1365 becomes 2047, which is not above; from there it goes beyond", 0x11, 1365, 3);
        dueSweep("1638 + 409 is 2047, from there it goes beyond", 0x12, 1638, 3);
        dueSweep("1639 + 409 is 2048", 0x12, 1639, -1);
    }

    /** The other way it comes to 0, and stays ON. */
    private static void sweepDownToZero() {
        dueSweep("3 less 1, 2 less 1, 1 less 0", 0x19, 3, 0);
        dueSweep("0", 0x19, 0, 0);
    }

    /** Sweep's count: 8 for 0. Pace 0 at the trigger, 1 from then on: the eighth of STEPS 2, 6 is the first that counts. */
    private static void sweepPaceZeroIsEight() {
        HandheldPair x = halted(new Rom().ldh(0x10, 0x01).ldh(0x12, 0xF0).ldh(0x13, 1000 & 255).ldh(0x14, 0x80 | 1000 >> 8).ldh(0x10, 0x11));
        Go.toTime(x, 31L * STEP - 4);
        Checks.due("ON", on(x), 1);
        x.run(4);
        Checks.due("not ON", on(x), 0);
        // Pace 1 at the trigger, 0 at the first sweep, which makes the count 8, and 1 from then on.
        HandheldPair y = halted(new Rom().ldh(0x10, 0x11).ldh(0x12, 0xF0).ldh(0x13, 1000 & 255).ldh(0x14, 0x80 | 1000 >> 8).ldh(0x10, 0x01)
            .spend(3 * STEP).ldh(0x10, 0x11));
        Go.toTime(y, 35L * STEP - 4);
        Checks.due("ON", on(y), 1);
        y.run(4);
        Checks.due("not ON", on(y), 0);
    }

    /** Frequency becomes it: 13, and bits 0 to 2 of 14 alone; bit 6 stays. */
    private static void sweepLeavesBitSix() {
        int[] lows = {0x00, 0x40, 0xFF};
        for (int low : lows) {
            for (int bit = 0; bit < 128; bit += 64) {
                HandheldPair x = halted(new Rom().ldh(0x10, 0x17).ldh(0x11, 0).ldh(0x12, 0xF0).ldh(0x13, low).ldh(0x14, 0x84 | bit));
                Go.toTime(x, 3 * STEP + 100);
                Checks.due("ON", on(x), 1);
                Checks.due("14", x.memory(0, 0xFF14), 0xBF | bit);
            }
        }
    }

    /** Sweep counts if bits 4 to 6 or bits 0 to 2 were not 0 at the trigger. */
    private static void sweepCountsByItsRegisterAtTheTrigger() {
        int[][] cases = {{0x00, 0}, {0x08, 0}, {0x80, 0}, {0x10, 1}, {0x01, 1}, {0x18, 1}};
        for (int[] c : cases) {
            HandheldPair x = halted(new Rom().ldh(0x10, c[0]).ldh(0x12, 0xF0).ldh(0x13, 1000 & 255).ldh(0x14, 0x80 | 1000 >> 8).ldh(0x10, 0x11));
            Go.toTime(x, 60L * STEP);
            Checks.due("sweep of " + c[0] + " at the trigger", on(x), 1 - c[1]);
        }
    }

    /** Channel 2 with duty 3, whose places 0 and 7 are 0: from place 0 on, in DOTS behind the trigger. */
    private static void shortestAndLongestPeriods() {
        // 2047: 4 DOTS a place; turned off and on, the position is 0.
        HandheldPair x = halted(new Rom().ldh(0x26, 0).ldh(0x26, 0x80).ldh(0x16, 0xC0).ldh(0x17, 0xF0).ldh(0x18, 0xFF).ldh(0x19, 0x87));
        x.run(136);
        int start = x.about(0, 17);
        Checks.due("place 0", start, 0);
        for (int place = 1; place < 20; place++) {
            x.run(4);
            Checks.due("place " + place, x.about(0, 17), place % 8 == 0 || place % 8 == 7 ? 0 : 15);
        }
        // 0: 8,192 DOTS a place.
        HandheldPair y = halted(new Rom().ldh(0x26, 0).ldh(0x26, 0x80).ldh(0x16, 0xC0).ldh(0x17, 0xF0).ldh(0x19, 0x80));
        y.run(116 + 8188);
        Checks.due("place 0", y.about(0, 17), 0);
        y.run(4);
        Checks.due("place 1", y.about(0, 17), 15);
        Go.toTime(y, 116 + 7 * 8192 - 4);
        Checks.due("place 6", y.about(0, 17), 15);
        y.run(4);
        Checks.due("place 7", y.about(0, 17), 0);
    }

    /** The position (8) goes on: behind 7 comes 0. */
    private static void positionsRunOver() {
        for (int channel = 0; channel < 2; channel++) {
            // Duty 1 has places 0 and 7; frequency 2040: 32 DOTS a place.
            int b = base(channel);
            HandheldPair x = halted(new Rom().ldh(0x26, 0).ldh(0x26, 0x80).ldh(b + 1, 0x40).ldh(b + 2, 0xF0).ldh(b + 3, 0xF8).ldh(b + 4, 0x87));
            x.run(136);
            for (int place = 0; place < 25; place++) {
                Checks.due("place " + place, x.about(0, 16 + channel), place % 8 == 0 || place % 8 == 7 ? 15 : 0);
                x.run(32);
            }
        }
    }

    /** WAVE's half bytes are 0, 15, 1, 14, ..; frequency 2046: 4 DOTS a position. */
    private static Rom waving() {
        Rom rom = new Rom();
        for (int i = 0; i < 16; i++) {
            rom.ldh(0x30 + i, i << 4 | 15 - i);
        }
        return rom.ldh(0x1A, 0x80).ldh(0x1C, 0x20).ldh(0x1D, 0xFE).ldh(0x1E, 0x87);
    }

    /** Position (32), high half first: behind 31 comes 0; a trigger makes it 0. */
    private static void wavePositionsRunOver() {
        HandheldPair x = halted(waving());
        x.run(16 + 20 * 20);
        for (int place = 0; place < 68; place++) {
            int k = place % 32 / 2;
            Checks.due("position " + place, x.about(0, 18), place % 2 == 0 ? k : 15 - k);
            x.run(4);
        }
        HandheldPair z = halted(waving().spend(100).ldh(0x1E, 0x87));
        z.run(416 + 120);
        Checks.due("the trigger", z.about(0, 18), 0);
        z.run(4);
        Checks.due("position 1", z.about(0, 18), 15);
        int[] shifts = {4, 0, 1, 2};
        for (int code = 0; code < 4; code++) {
            HandheldPair y = halted(new Rom().ldh(0x30, 0xFF).ldh(0x1A, 0x80).ldh(0x1C, code << 5).ldh(0x1E, 0x80));
            y.run(96);
            Checks.due("shifted by " + shifts[code], y.about(0, 18), 15 >> shifts[code]);
        }
    }

    /** NOISE $7FFF at the trigger: bit 0 is 0 for the first time when 15 zeros came in; 7 if bit 3 of 22. */
    private static void noiseAtItsLimits() {
        int[][] cases = {{0x00, 8, 15}, {0x08, 8, 7}, {0x01, 16, 15}, {0x07, 112, 15}, {0x0F, 112, 7}, {0x10, 16, 15}, {0x77, 112 << 7, 15}};
        for (int[] c : cases) {
            HandheldPair x = halted(new Rom().ldh(0x21, 0xF0).ldh(0x22, c[0]).ldh(0x23, 0x80));
            x.run(76);
            // Each shift brings a 0 to bit 14 (and 6), which reaches bit 0 by 14 (6) more.
            long first = (long) c[1] * c[2];
            Go.toTime(x, 76 + first - 4);
            Checks.due("22 is " + c[0] + ": 1 still", x.about(0, 19), 0);
            x.run(4);
            Checks.due("22 is " + c[0] + ": the first 0", x.about(0, 19), 15);
        }
        // Shifted left by 15: 112 << 15 is 3,670,016 DOTS.
        HandheldPair x = halted(new Rom().ldh(0x21, 0xF0).ldh(0x22, 0xFF).ldh(0x23, 0x80).spend(600).ldh(0x22, 0x08));
        Go.toTime(x, 76 + 3670016L);
        Checks.due("one shift", x.about(0, 19), 0);
        Go.toTime(x, 76 + 3670016L + 6 * 8 - 4);
        Checks.due("six shifts, less one", x.about(0, 19), 0);
        x.run(4);
        Checks.due("seven shifts", x.about(0, 19), 15);
    }

    /** DAC: bits 3 to 7 of the envelope not all 0. */
    private static void dacBits() {
        int[] channels = {0, 1, 3};
        for (int channel : channels) {
            int[][] cases = {{0x00, 0}, {0x07, 0}, {0x08, 1}, {0x10, 1}, {0x80, 1}, {0xFF, 1}};
            for (int[] c : cases) {
                HandheldPair x = halted(new Rom().ldh(base(channel) + 2, c[0]).ldh(base(channel) + 4, 0x80));
                x.run(56);
                Checks.due("channel " + channel + " of " + c[0], on(x), c[1] << channel);
                HandheldPair y = halted(new Rom().ldh(base(channel) + 2, 0xF0).ldh(base(channel) + 4, 0x80).ldh(base(channel) + 2, c[0]).ldh(base(channel) + 2, 0xF0));
                y.run(76);
                Checks.due("at the write of " + c[0], on(y), c[1] << channel);
                y.run(20);
                Checks.due("it does not come back", on(y), c[1] << channel);
            }
        }
    }

    private static void waveDac() {
        int[][] cases = {{0x00, 0}, {0x7F, 0}, {0x80, 1}, {0xFF, 1}};
        for (int[] c : cases) {
            HandheldPair x = halted(new Rom().ldh(0x1A, c[0]).ldh(0x1E, 0x80));
            x.run(56);
            Checks.due("1A is " + c[0], on(x), c[1] << 2);
            HandheldPair y = halted(new Rom().ldh(0x1A, 0x80).ldh(0x1E, 0x80).ldh(0x1A, c[0]));
            y.run(76);
            Checks.due("at the write of " + c[0], on(y), c[1] << 2);
        }
    }

    /** STEPS 0 .. 7 in turn: behind 7 comes 0. LENGTH 5 goes with the STEP 0 of the second round. */
    private static void stepsRunOver() {
        dueLength(1, 0x3F - 4, 5);
        dueLength(1, 0x3F - 7, 8);
        HandheldPair x = halted(new Rom().ldh(0x21, 0x41).ldh(0x22, 0).ldh(0x23, 0x80));
        Go.toTime(x, 2L * 65536 - 520);
        Checks.due("one STEP 7", volume(x), 3);
        Go.toTime(x, 2L * 65536);
        Checks.due("two", volume(x), 2);
    }

    /** Off: all but 26 and WAVE become 0 and are not written. */
    private static void offAndNotWritten() {
        Rom rom = new Rom(0x800);
        for (int low = 0x10; low < 0x26; low++) {
            rom.ldh(low, 0xFF);
        }
        rom.ldh(0x30, 0x81).ldh(0x3F, 0x82).ldh(0x26, 0x7F);
        int off = 16 + 20 * 25;
        for (int low = 0x10; low < 0x26; low++) {
            rom.ldh(low, 0xFF);
        }
        HandheldPair x = halted(rom.ldh(0x30, 0x83).ldh(0x26, 0x80));
        x.run(off - 20);
        Checks.due("26 before", x.memory(0, 0xFF26) | 1, 0xFF);
        x.run(20);
        dueAllZero("off", x);
        Checks.due("26", x.memory(0, 0xFF26), 0x70);
        Checks.due("WAVE stays", x.memory(0, 0xFF30) << 8 | x.memory(0, 0xFF3F), 0x8182);
        x.run(20 * 22);
        dueAllZero("not written", x);
        x.run(20);
        Checks.due("WAVE is written", x.memory(0, 0xFF30), 0x83);
        x.run(20);
        dueAllZero("on again", x);
        Checks.due("26", x.memory(0, 0xFF26), 0xF0);
    }

    private static void dueAllZero(String what, HandheldPair x) {
        int[] masks = {0x80, 0x3F, 0, 0xFF, 0xBF, 0xFF, 0x3F, 0, 0xFF, 0xBF, 0x7F, 0xFF, 0x9F, 0xFF, 0xBF, 0xFF, 0xFF, 0, 0, 0xBF, 0, 0};
        for (int i = 0; i < masks.length; i++) {
            Checks.due(what + ": " + Integer.toHexString(0x10 + i), x.memory(0, 0xFF10 + i), masks[i]);
        }
    }

    /** On: STEP counts from 0. */
    private static void onBeginsAtStepZero() {
        for (int steps = 1; steps < 9; steps++) {
            HandheldPair x = halted(begin(new Rom().spend(steps * STEP + 1000).ldh(0x26, 0).ldh(0x26, 0x80), 1, 0x3F, 0xC0));
            Go.toTime(x, (steps + 1L) * STEP - 4);
            Checks.due("ON", on(x), 2);
            x.run(4);
            Checks.due("the next is STEP 0", on(x), 0);
        }
        // While it is off no STEP is counted.
        HandheldPair x = halted(begin(new Rom().ldh(0x26, 0).spend(3 * STEP).ldh(0x26, 0x80), 1, 0x3F, 0xC0));
        Go.toTime(x, 4L * STEP - 4);
        Checks.due("ON", on(x), 2);
        x.run(4);
        Checks.due("STEP 0", on(x), 0);
    }

    /** HEARD = HEARD * 31 + left * 512 + right (32 bits), every 64th DOT. */
    private static void heardIsThirtyTwoBits() {
        Rom rom = new Rom();
        for (int i = 0; i < 16; i++) {
            rom.ldh(0x30 + i, 0xFF);
        }
        HandheldPair x = halted(rom.ldh(0x1A, 0x80).ldh(0x1C, 0x20).ldh(0x24, 0x77).ldh(0x25, 0xFF).ldh(0x1E, 0x80));
        x.run(16 + 21 * 20 + 12);
        Checks.due("at 448: the first", x.time(0), 448);
        int want = 15 * 8 * 512 + 15 * 8;
        Checks.due("HEARD", x.about(0, 20), want);
        x.run(60);
        Checks.due("60 DOTS later", x.about(0, 20), want);
        for (int i = 0; i < 20; i++) {
            want = want * 31 + 15 * 8 * 512 + 15 * 8;
            x.run(i == 0 ? 4 : 64);
            Checks.due("HEARD", x.about(0, 20), want);
        }
    }

    /** 7: envelopes of 1, 2, 4; the greatest LEVEL of a channel with duty 3, before and behind STEP 7. */
    private static void envelopesOfThree() {
        int[] channels = {0, 1, 3};
        for (int channel : channels) {
            int b = base(channel);
            HandheldPair x = halted(new Rom().ldh(b + 1, 0xC0).ldh(b + 2, 0x91).ldh(b + 3, channel == 3 ? 0 : 0xFF).ldh(b + 4, 0x87));
            for (int steps = 0; steps < 3; steps++) {
                Go.toTime(x, 65536L * (steps + 1) - 500);
                int most = 0;
                for (int i = 0; i < 60; i++) {
                    most = Math.max(most, x.about(0, 16 + channel));
                    x.run(4);
                }
                Checks.due("channel " + channel + " behind " + steps, most, 9 - steps);
            }
        }
    }

    /** Duty 3 of channel 1, its position by a count of its own; the sweep changes it at just its STEP. */
    private static void sweepAtItsDot() {
        // With 1937, 1993 and 2011 a PERIOD ends at the very DOT of the STEP.
        int[] frequencies = {1937, 1993, 2011, 1970, 1972, 1974, 1976, 1978, 1980, 1982, 1984, 1986, 1988, 1990, 1992, 1994, 1996, 1998, 2000};
        for (int frequency : frequencies) {
            HandheldPair x = halted(new Rom().ldh(0x26, 0).ldh(0x26, 0x80).ldh(0x10, 0x17).ldh(0x11, 0xC0).ldh(0x12, 0xF0)
                .ldh(0x13, frequency).ldh(0x14, 0x80 | frequency >> 8));
            int begin = 16 + 7 * 20;
            int period = 4 * (2048 - frequency);
            int place = 0;
            // Nothing is told before that STEP, so that all that was counted until then must be right.
            Go.toTime(x, 3 * STEP);
            for (int dot = begin + 1; dot <= 3 * STEP + 500; dot++) {
                // The STEP comes with the CLOCKS, before the DOTS of its M-CYCLE.
                int now = dot <= 3 * STEP - 4 ? frequency : frequency + (frequency >> 7);
                period--;
                if (period == 0) {
                    period = 4 * (2048 - now);
                    place = (place + 1) % 8;
                }
                if (dot > 3 * STEP && dot % 4 == 0) {
                    x.run(4);
                    Checks.due("LEVEL at " + dot + " of " + frequency, x.about(0, 16), place == 0 || place == 7 ? 0 : 15);
                }
            }
        }
    }

    /** POWER ON: STEP, PERIODS and positions from 0, the 64 DOTS of HEARD, too. */
    private static void powerBeginsAnew() {
        for (int odd = 0; odd < 4; odd++) {
            HandheldPair x = halted(begin(new Rom(), 1, 0x3F, 0xC0));
            Go.toTime(x, STEP + 5000 + 20 * odd);
            long from = x.power(0);
            Go.toTime(x, from + STEP - 4);
            Checks.due("ON", on(x), 2);
            x.run(4);
            Checks.due("STEP 0", on(x), 0);
        }
        // Duty 0 has place 7 alone: PERIOD 0 makes position 1 at DOT 1, the next 8,191 DOTS later: position 7 comes at DOT 49,152.
        for (int odd = 0; odd < 16; odd++) {
            for (int late = 0; late < 2; late++) {
                int end = 49148 + 4 * late;
                HandheldPair x = halted(new Rom().spend(end - 56).ldh(0x17, 0xF0).ldh(0x19, 0x80));
                x.run(1000 + 4 * odd);
                long from = x.power(0);
                Go.toTime(x, from + end);
                Checks.due("ON", on(x), 2);
                Checks.due("place 6, then 7", x.about(0, 17), 15 * late);
            }
        }
    }

    /** Each of the four is heard, and all of them together. */
    private static void heardOfEach() {
        for (int channel = 0; channel < 5; channel++) {
            Rom rom = new Rom().ldh(0x30, 0xFF).ldh(0x1A, 0x80).ldh(0x1C, 0x20).ldh(0x12, 0x30).ldh(0x17, 0x50).ldh(0x21, 0x70).ldh(0x22, 8)
                .ldh(0x11, 0xC0).ldh(0x16, 0xC0).ldh(0x24, 0x10).ldh(0x25, channel == 4 ? 0xFF : 0x11 << channel)
                .ldh(0x14, 0x80).ldh(0x19, 0x80).ldh(0x1E, 0x80).ldh(0x23, 0x80);
            HandheldPair x = halted(rom);
            x.run(448);
            int before = x.about(0, 20);
            x.run(60);
            int[] levels = {x.about(0, 16), x.about(0, 17), x.about(0, 18), x.about(0, 19)};
            x.run(4);
            int sum = channel == 4 ? levels[0] + levels[1] + levels[2] + levels[3] : levels[channel];
            Checks.due("LEVELS", levels[0] * 256 + levels[1] * 16 + levels[2], 0x35F);
            Checks.due("HEARD of " + channel, x.about(0, 20), before * 31 + 2 * sum * 512 + sum);
        }
    }

    /** Channel 3 with WAVE all $FF, heard at the left with 15 times 512, at the right with 15. */
    private static Rom steady(int length, int trigger) {
        Rom rom = new Rom();
        for (int i = 0; i < 16; i++) {
            rom.ldh(0x30 + i, 0xFF);
        }
        return rom.ldh(0x1A, 0x80).ldh(0x1B, length).ldh(0x1C, 0x20).ldh(0x25, 0x44).ldh(0x1E, trigger);
    }

    /** CLOCKS come before DOTS: LENGTH ends with the STEP, and the 64th DOT of that M-CYCLE hears it no more. */
    private static void heardAtTheStep() {
        HandheldPair x = halted(steady(0xFF, 0xC0));
        x.run(STEP - 4);
        int before = x.about(0, 20);
        Checks.due("ON", on(x), 4);
        x.run(4);
        Checks.due("HEARD", x.about(0, 20), before * 31);
        HandheldPair y = halted(steady(0xFF, 0x80));
        y.run(STEP);
        Checks.due("HEARD without an end", y.about(0, 20), before * 31 + 15 * 513);
    }

    /**
     * FAST for seven M-CYCLES: from then on each M-CYCLE begins behind an odd pair of DOTS, and the
     * 64th DOT lies in the middle of one. What is heard is the LEVEL of that DOT.
     */
    private static void heardWithinAnMCycle() {
        int[] frequencies = {2047, 2046, 2043, 2030};
        for (int frequency : frequencies) {
            Rom rom = new Rom().colour().ldh(0x4D, 1).code(0x10, 0).nops(1).ldh(0x4D, 1).code(0x10, 0);
            for (int i = 0; i < 16; i++) {
                rom.ldh(0x30 + i, i * 0x35 + 0x1C & 255);
            }
            HandheldPair x = halted(rom.ldh(0x1A, 0x80).ldh(0x1C, 0x20).ldh(0x25, 0x40).ldh(0x1D, frequency).ldh(0x1E, 0x87));
            int begin = 40 + 14 + 21 * 20;
            x.run(begin);
            Checks.due("TIME", x.time(0), begin);
            int want = x.about(0, 20);
            Checks.due("nothing heard", want, 0);
            for (int dot = 512; dot < 512 + 64 * 20; dot += 64) {
                Go.toTime(x, dot - 2);
                Checks.due("HEARD before " + dot, x.about(0, 20), want);
                int position = (dot - begin) / (2 * (2048 - frequency)) % 32;
                int both = position / 2 * 0x35 + 0x1C & 255;
                want = want * 31 + (position % 2 == 0 ? both / 16 : both % 16) * 512;
                Go.toTime(x, dot + 2);
                Checks.due("HEARD behind " + dot, x.about(0, 20), want);
            }
        }
    }

    /** Every 64th DOT since POWER ON, sound on or off. */
    private static void heardWhileOff() {
        HandheldPair x = halted(steady(0, 0x80).ldh(0x26, 0));
        x.run(512);
        Checks.due("off", x.memory(0, 0xFF26), 0x70);
        int heard = x.about(0, 20);
        Checks.due("HEARD before", heard != 0 ? 1 : 0, 1);
        for (int i = 0; i < 5; i++) {
            x.run(64);
            heard *= 31;
            Checks.due("HEARD", x.about(0, 20), heard);
        }
    }

    /** The sum of LEVELS of channels with bits 4 to 7 of 25 times (bits 4 to 6 of 24, plus 1). */
    private static void heardOfAllChannels() {
        int[][] cases = {{0x00, 0xFF, 1, 1, 15, 15}, {0x70, 0xF0, 8, 1, 15, 0}, {0x07, 0x0F, 1, 8, 0, 15}, {0x88, 0x44, 1, 1, 15, 15}, {0xFF, 0x40, 8, 8, 15, 0}, {0x34, 0xBB, 4, 5, 0, 0}};
        for (int[] c : cases) {
            Rom rom = new Rom().ldh(0x30, 0xFF).ldh(0x1A, 0x80).ldh(0x1C, 0x20).ldh(0x24, c[0]).ldh(0x25, c[1]).ldh(0x1E, 0x80);
            HandheldPair x = halted(rom);
            x.run(192);
            Checks.due("24 is " + c[0] + ", 25 is " + c[1], x.about(0, 20), c[4] * c[2] * 512 + c[5] * c[3]);
        }
    }
}
