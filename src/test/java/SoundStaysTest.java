/** Promises 9 to 11: what a write to sound's registers, a STEP, or sound turned off leaves as it is. */
public final class SoundStaysTest {
    private static final int STEP = 8192;

    public static void main(String[] args) {
        frequencyLeavesPeriod();
        noiseControlLeavesPeriod();
        triggerMakesPeriodJustThat();
        triggerLeavesPosition();
        lengthEndLeavesPosition();
        dutyAsItIsThen();
        waveShiftAsItIsThen();
        waveAsItIs();
        onWrittenTwice();
        widthLeavesNoise();
        longestNoise();
        sweepWriteReckonsNothing();
        sweepWriteLeavesCount();
        sweepOtherWay();
        sweepByItsShadow();
        sweepWhileNotOn();
        offLeavesSweep();
        envelopeWriteLeavesVolume();
        envelopeWriteLeavesCount();
        envelopeCountOfNone();
        envelopeTurnsAtItsLimit();
        lengthWriteWithoutTrigger();
        heardByPowerAlone();
        speedLeavesStep();
        channelsDoNotTouchOneAnother();
        Checks.end("SoundStaysTest");
    }

    private static HandheldPair halted(Rom rom) {
        return rom.code(0x76).start();
    }

    private static int on(HandheldPair x) {
        return x.memory(0, 0xFF26) & 15;
    }

    /** The position of a square wave, counted DOT by DOT from POWER ON. */
    private static final class Square {
        private int dot;
        private int period;
        private int place;
        private int frequency;

        Square to(int end) {
            while (dot < end) {
                dot++;
                period--;
                if (period <= 0) {
                    period += 4 * (2048 - frequency);
                    place = (place + 1) % 8;
                }
            }
            return this;
        }

        Square frequency(int f) {
            frequency = f;
            return this;
        }

        Square trigger() {
            period = 4 * (2048 - frequency);
            return this;
        }

        /** Duty 3. */
        int level(int volume) {
            return place == 0 || place == 7 ? 0 : volume;
        }
    }

    /** LEVELS of a channel from TIME on, at sixty places. */
    private static void dueLevels(String what, HandheldPair x, int channel, Square square, int pace) {
        for (int i = 0; i < 60; i++) {
            int dot = (int) x.time(0);
            Checks.due(what + ": LEVEL at " + dot, x.about(0, 16 + channel), square.to(dot).level(15));
            x.run(pace);
        }
    }

    /** 13, 18 and bits 0 to 2 of 14, 19 count once PERIOD ends; without bit 7 nothing begins. */
    private static void frequencyLeavesPeriod() {
        for (int channel = 0; channel < 2; channel++) {
            int b = 0x10 + 5 * channel;
            // The trigger is written at 96: 1,024 DOTS a place; 13 at 296, 14 at 416.
            HandheldPair x = halted(new Rom().ldh(b + 1, 0xC0).ldh(b + 2, 0xF0).ldh(b + 3, 0x00).ldh(b + 4, 0x87)
                .spend(180).ldh(b + 3, 0x80).spend(100).ldh(b + 4, 0x06));
            Square square = new Square().to(96).frequency(0x700).trigger().to(296).frequency(0x780).to(416).frequency(0x680);
            x.run(416);
            dueLevels("channel " + channel, x, channel, square, 332);
            // The same while each PERIOD is short: a write in the midst of it.
            HandheldPair y = halted(new Rom().ldh(b + 1, 0xC0).ldh(b + 2, 0xF0).ldh(b + 3, 0xF0).ldh(b + 4, 0x87)
                .ldh(b + 3, 0xE1).ldh(b + 4, 0x07).ldh(b + 3, 0xC7).ldh(b + 4, 0x47));
            Square quick = new Square().to(96).frequency(0x7F0).trigger().to(116).frequency(0x7E1).to(156).frequency(0x7C7);
            y.run(176);
            dueLevels("channel " + channel, y, channel, quick, 52);
        }
    }

    /** 22 counts once PERIOD ends: one shift behind 128 DOTS, six more of 8 DOTS each. */
    private static void noiseControlLeavesPeriod() {
        HandheldPair x = halted(new Rom().ldh(0x21, 0xF0).ldh(0x22, 0x48).ldh(0x23, 0x80).ldh(0x22, 0x08));
        x.run(76 + 128 + 48 - 4);
        Checks.due("six shifts", x.about(0, 19), 0);
        x.run(4);
        Checks.due("seven shifts", x.about(0, 19), 15);
    }

    /** PERIOD is just what is reckoned, whatever was left of the one before. */
    private static void triggerMakesPeriodJustThat() {
        // Of 518 DOTS 478 are left when the second trigger comes, of 16 DOTS.
        HandheldPair x = halted(new Rom().ldh(0x30, 0x12).ldh(0x31, 0x34).ldh(0x1A, 0x80).ldh(0x1C, 0x20).ldh(0x1D, 0xFD).ldh(0x1E, 0x86)
            .ldh(0x1D, 0xF8).ldh(0x1E, 0x87));
        x.run(16 + 8 * 20);
        for (int position = 0; position < 4; position++) {
            Checks.due("LEVEL", x.about(0, 18), position + 1);
            x.run(12);
            Checks.due("LEVEL 12 DOTS later", x.about(0, 18), position + 1);
            x.run(4);
        }
        // The same of a square wave that is begun again and again.
        Rom rom = new Rom().ldh(0x16, 0xC0).ldh(0x17, 0xF0).ldh(0x18, 0xE9);
        Square square = new Square().to(76).frequency(0xE9);
        for (int i = 0; i < 9; i++) {
            rom.nops(i * i % 7).ldh(0x19, 0x87);
            square.to(square.dot + 4 * (i * i % 7) + 20).frequency(0x7E9).trigger();
        }
        HandheldPair y = halted(rom);
        y.run(square.dot);
        dueLevels("begun again", y, 1, square, 4);
    }

    /** A trigger makes the position of 3 alone 0. */
    private static void triggerLeavesPosition() {
        for (int channel = 0; channel < 2; channel++) {
            int b = 0x10 + 5 * channel;
            for (int places = 0; places < 8; places++) {
                // 32 DOTS a place; the second trigger so many places behind the first.
                HandheldPair x = halted(new Rom().ldh(b + 1, 0xC0).ldh(b + 2, 0xF0).ldh(b + 3, 0xF8).ldh(b + 4, 0x87).spend(32 * places).ldh(b + 4, 0x87));
                int again = 96 + 32 * places + 20;
                Square square = new Square().to(76).frequency(0xF8).to(96).frequency(0x7F8).trigger().to(again).trigger();
                x.run(again);
                for (int i = 0; i < 20; i++) {
                    Checks.due("LEVEL", x.about(0, 16 + channel), square.to(again + 16 * i).level(15));
                    x.run(16);
                }
            }
        }
    }

    /** LENGTH ends, and another trigger comes: PERIOD and position were counted all along. */
    private static void lengthEndLeavesPosition() {
        for (int channel = 0; channel < 2; channel++) {
            int b = 0x10 + 5 * channel;
            for (int late = 0; late < 4; late++) {
                HandheldPair x = halted(new Rom().ldh(b + 1, 0xFF).ldh(b + 2, 0xF0).ldh(b + 3, 0x9C).ldh(b + 4, 0xC7).spend(STEP + 400 * late).ldh(b + 4, 0x87));
                x.run(STEP);
                Checks.due("not ON", on(x), 0);
                int again = 96 + STEP + 400 * late + 20;
                Square square = new Square().to(76).frequency(0x9C).to(96).frequency(0x79C).trigger().to(again).trigger();
                Go.toTime(x, again);
                Checks.due("ON", on(x), 1 << channel);
                for (int i = 0; i < 40; i++) {
                    Checks.due("LEVEL", x.about(0, 16 + channel), square.to(again + 100 * i).level(15));
                    x.run(100);
                }
            }
        }
    }

    /** LEVEL is by the duty of now: a write to 11, 16 changes it at once, and leaves ON, position and VOLUME. */
    private static void dutyAsItIsThen() {
        int[] duties = {0x80, 0x81, 0xE1, 0x7E};
        for (int channel = 0; channel < 2; channel++) {
            int b = 0x10 + 5 * channel;
            for (int place = 0; place < 8; place++) {
                Rom rom = new Rom().ldh(0x26, 0).ldh(0x26, 0x80).ldh(b + 2, 0x90).ldh(b + 3, 0x80).ldh(b + 4, 0x87).spend(512 * place + 40);
                HandheldPair x = halted(rom.ldh(b + 1, 0x00).ldh(b + 1, 0x40).ldh(b + 1, 0x80).ldh(b + 1, 0xC0));
                x.run(16 + 5 * 20 + 512 * place + 40);
                for (int duty = 0; duty < 4; duty++) {
                    x.run(20);
                    Checks.due("duty " + duty + ", place " + place, x.about(0, 16 + channel), 9 * (duties[duty] >> place & 1));
                    Checks.due("ON", on(x), 1 << channel);
                }
            }
        }
    }

    private static void waveShiftAsItIsThen() {
        HandheldPair x = halted(new Rom().ldh(0x30, 0xF0).ldh(0x1A, 0x80).ldh(0x1E, 0x80).ldh(0x1C, 0x20).ldh(0x1C, 0x40).ldh(0x1C, 0x60).ldh(0x1C, 0x9F));
        x.run(76);
        int[] want = {0, 15, 7, 3, 0};
        for (int level : want) {
            Checks.due("LEVEL", x.about(0, 18), level);
            x.run(20);
        }
    }

    /** WAVE is read and written as it is, also while 3 is ON. */
    private static void waveAsItIs() {
        Rom rom = new Rom();
        for (int i = 0; i < 16; i++) {
            rom.ldh(0x30 + i, 0x11 * i);
        }
        HandheldPair x = halted(rom.ldh(0x1A, 0x80).ldh(0x1C, 0x20).ldh(0x1D, 0xFE).ldh(0x1E, 0x87).nops(9).ldh(0x30, 0xAB).peek(0xFF35, 0x80).peek(0xFF30, 0x81));
        x.run(16 + 20 * 20);
        for (int k = 0; k < 4; k++) {
            Checks.due("ON", on(x), 4);
            for (int i = 0; i < 16; i++) {
                Checks.due("WAVE " + i, x.memory(0, 0xFF30 + i), i == 0 && k > 1 ? 0xAB : 0x11 * i);
            }
            x.run(28);
        }
        x.run(100);
        Checks.due("read by the processor", x.memory(0, 0xFF80) << 8 | x.memory(0, 0xFF81), 0x55AB);
    }

    /** 26: bit 7 alone is written; the others tell which are ON. */
    private static void onWrittenTwice() {
        int[] values = {0x80, 0x8F, 0xF0, 0xFF};
        for (int v : values) {
            HandheldPair x = halted(new Rom().ldh(0x12, 0xF0).ldh(0x17, 0xF0).ldh(0x1A, 0x80).ldh(0x21, 0xF0)
                .ldh(0x14, 0x80).ldh(0x19, 0x80).ldh(0x1E, 0x80).ldh(0x26, v).ldh(0x12, 0).ldh(0x26, v));
            x.run(16 + 8 * 20);
            Checks.due("those that are ON", x.memory(0, 0xFF26), 0xF7);
            x.run(40);
            Checks.due("those that are ON", x.memory(0, 0xFF26), 0xF6);
            Checks.due("17 stays", x.memory(0, 0xFF17), 0xF0);
        }
    }

    private static int shifted(int noise, boolean narrow) {
        int bit = noise % 2 ^ noise / 2 % 2;
        int next = noise / 2 + bit * 0x4000;
        return narrow ? next & ~0x40 | bit * 0x40 : next;
    }

    /** Bit 3 of 22 counts from the next shift on; NOISE itself stays. */
    private static void widthLeavesNoise() {
        for (int first = 0; first < 2; first++) {
            // 64 DOTS a shift, from 76 on; 22 is written at 76 + 20 * 64 + 20.
            HandheldPair x = halted(new Rom().ldh(0x21, 0xF0).ldh(0x22, 0x30 | 8 * first).ldh(0x23, 0x80).spend(20 * 64).ldh(0x22, 0x38 - 8 * first));
            int noise = 0x7FFF;
            for (int shifts = 0; shifts < 60; shifts++) {
                Go.toTime(x, 76 + 64 * shifts);
                Checks.due("LEVEL behind " + shifts, x.about(0, 19), noise % 2 == 0 ? 15 : 0);
                noise = shifted(noise, (shifts < 20) == (first == 1));
            }
        }
    }

    /** Shifted left by 14 and 15, too. */
    private static void longestNoise() {
        int[][] cases = {{0xD8, 65536}, {0xE8, 131072}, {0xF8, 262144}};
        for (int[] c : cases) {
            HandheldPair x = halted(new Rom().ldh(0x21, 0xF0).ldh(0x22, c[0]).ldh(0x23, 0x80));
            Go.toTime(x, 76 + 7L * c[1] - 4);
            Checks.due("six shifts", x.about(0, 19), 0);
            x.run(4);
            Checks.due("seven shifts", x.about(0, 19), 15);
        }
    }

    /** A write to 10 is no reckoning: 2,000 stays ON; nor does it make the sweep count. */
    private static void sweepWriteReckonsNothing() {
        HandheldPair x = halted(new Rom().ldh(0x10, 0).ldh(0x12, 0xF0).ldh(0x13, 2000 & 255).ldh(0x14, 0x80 | 2000 >> 8).ldh(0x10, 0x11));
        x.run(200);
        Checks.due("ON", on(x), 1);
        Go.toTime(x, 40L * STEP);
        Checks.due("ON", on(x), 1);
    }

    /** The count is that of the trigger until it ends: pace 3 then, 1 now; 1,000 goes beyond at the third. */
    private static void sweepWriteLeavesCount() {
        HandheldPair x = halted(new Rom().ldh(0x10, 0x31).ldh(0x12, 0xF0).ldh(0x13, 1000 & 255).ldh(0x14, 0x80 | 1000 >> 8).ldh(0x10, 0x11));
        Go.toTime(x, 11L * STEP - 4);
        Checks.due("ON", on(x), 1);
        x.run(4);
        Checks.due("not ON", on(x), 0);
    }

    /** Bit 3 of 10 goes: the channel stays ON, and goes up from then on. */
    private static void sweepOtherWay() {
        HandheldPair x = halted(new Rom().ldh(0x10, 0x19).ldh(0x12, 0xF0).ldh(0x13, 1000 & 255).ldh(0x14, 0x80 | 1000 >> 8).ldh(0x10, 0x11));
        x.run(200);
        Checks.due("ON", on(x), 1);
        Go.toTime(x, 3L * STEP - 4);
        Checks.due("ON", on(x), 1);
        x.run(4);
        Checks.due("1,500, then 2,250: not ON", on(x), 0);
        HandheldPair y = halted(new Rom().ldh(0x10, 0x19).ldh(0x12, 0xF0).ldh(0x13, 1000 & 255).ldh(0x14, 0x80 | 1000 >> 8).spend(4 * STEP).ldh(0x10, 0x11));
        Go.toTime(y, 5L * STEP);
        Checks.due("500 behind the first", on(y), 1);
        Go.toTime(y, 7L * STEP);
        Checks.due("750, then 1,125", on(y), 1);
        Go.toTime(y, 11L * STEP);
        Checks.due("1,125, then 1,687", on(y), 1);
        Go.toTime(y, 15L * STEP - 4);
        Checks.due("before", on(y), 1);
        y.run(4);
        Checks.due("1,687, then 2,530: not ON", on(y), 0);
    }

    /** Shadow is the frequency of the trigger, whatever 13 and 14 say since; frequency becomes what is reckoned of it. */
    private static void sweepByItsShadow() {
        // 1,000 and an eighth is 1,125; written at 96, 116 and 136; the sweep comes with STEP 2.
        HandheldPair x = halted(new Rom().ldh(0x10, 0x13).ldh(0x11, 0xC0).ldh(0x12, 0xF0).ldh(0x13, 1000 & 255).ldh(0x14, 0x80 | 1000 >> 8)
            .ldh(0x13, 0x80).ldh(0x14, 0x07));
        Square square = new Square().to(96).frequency(1000 & 255).to(116).frequency(1000).trigger().to(136).frequency(0x380).to(156).frequency(0x780)
            .to(3 * STEP - 4).frequency(1125);
        for (int dot = 3 * STEP; dot < 7 * STEP - 4; dot += 500) {
            Go.toTime(x, dot);
            Checks.due("LEVEL at " + dot, x.about(0, 16), square.to(dot).level(15));
        }
    }

    /** The sweep goes on while 1 is not ON: 13 changes by it, and is what the next trigger finds. */
    private static void sweepWhileNotOn() {
        for (int late = 0; late < 2; late++) {
            // LENGTH 1 ends with STEP 0; STEP 2 makes 1,000 ($3E8) 1,125 ($465); 10 is 0 before the second trigger.
            int wait = (late == 0 ? 2 : 4) * STEP;
            HandheldPair x = halted(new Rom().ldh(0x10, 0x13).ldh(0x11, 0xFF).ldh(0x12, 0xF0).ldh(0x13, 0xE8).ldh(0x14, 0xC3).spend(wait).ldh(0x10, 0).ldh(0x14, 0x84));
            Go.toTime(x, 2 * STEP);
            Checks.due("not ON", on(x), 0);
            int again = 116 + wait + 40;
            Square square = new Square().to(96).frequency(0xE8).to(116).frequency(0x3E8).trigger();
            if (late == 1) {
                square.to(3 * STEP - 4).frequency(0x465);
            }
            square.to(again).frequency(late == 1 ? 0x465 : 0x4E8).trigger();
            Go.toTime(x, again);
            Checks.due("ON", on(x), 1);
            dueLevels("frequency", x, 0, square, 500);
        }
    }

    /** Off and on: shadow, sweep's count and that it counts stay. The count of 2 ends with the second sweep, STEP 6. */
    private static void offLeavesSweep() {
        for (int late = 0; late < 2; late++) {
            int wait = (late == 0 ? 5 : 7) * STEP;
            HandheldPair x = halted(new Rom().ldh(0x10, 0x23).ldh(0x12, 0xF0).ldh(0x13, 0xE8).ldh(0x14, 0x83).ldh(0x26, 0).ldh(0x26, 0x80)
                .ldh(0x10, 0x13).spend(wait).ldh(0x10, 0).ldh(0x11, 0xC0).ldh(0x12, 0xF0).ldh(0x14, 0x84));
            int off = 16 + 5 * 20;
            int again = off + 40 + wait + 80;
            // PERIOD stands while it is off; all positions are 0 then.
            Square square = new Square().to(76).frequency(0xE8).to(96).frequency(0x3E8).trigger().to(off);
            square.dot = off + 20;
            square.place = 0;
            square.frequency(0);
            if (late == 1) {
                square.to(7 * STEP - 4).frequency(0x465);
            }
            square.to(again).frequency(late == 1 ? 0x465 : 0x400).trigger();
            Go.toTime(x, again);
            Checks.due("ON", on(x), 1);
            dueLevels("behind off and on", x, 0, square, 500);
        }
    }

    /** What channel 4 tells while NOISE's bit 0 is 0. */
    private static int volume(HandheldPair x) {
        int volume = 0;
        for (int i = 0; i < 60; i++) {
            volume = Math.max(volume, x.about(0, 19));
            x.run(8);
        }
        return volume;
    }

    private static void dueVolume(String what, Rom rom, int steps, int want) {
        HandheldPair x = halted(rom);
        Go.toTime(x, 65536L * steps + 200);
        Checks.due(what, volume(x), want);
    }

    private static Rom noise(int envelope) {
        return new Rom().ldh(0x21, envelope).ldh(0x22, 0).ldh(0x23, 0x80);
    }

    /** VOLUME is that of the trigger; the direction and the pace are those of now. */
    private static void envelopeWriteLeavesVolume() {
        dueVolume("another volume", noise(0x50).ldh(0x21, 0x90), 0, 5);
        dueVolume("another direction", noise(0x51).ldh(0x21, 0x99), 1, 6);
        dueVolume("another direction", noise(0x59).ldh(0x21, 0x91), 1, 4);
        dueVolume("no pace any more", noise(0x51).ldh(0x21, 0x90), 3, 5);
    }

    /** Pace 4: the count ends with the fourth STEP 7, though 21 was written behind the second. */
    private static void envelopeWriteLeavesCount() {
        dueVolume("before", noise(0x84).spend(2 * 65536 + 1000).ldh(0x21, 0x84), 3, 8);
        dueVolume("then", noise(0x84).spend(2 * 65536 + 1000).ldh(0x21, 0x84), 4, 7);
        dueVolume("a count of 4, then of 1", noise(0x84).ldh(0x21, 0x81), 3, 8);
        dueVolume("a count of 4, then of 1", noise(0x84).ldh(0x21, 0x81), 5, 6);
    }

    /** Its count is bits 0 to 2: one of 0 is not above 0 at the first STEP 7 that counts. */
    private static void envelopeCountOfNone() {
        dueVolume("pace 0, then 7", noise(0x80).ldh(0x21, 0x87), 0, 8);
        dueVolume("pace 0, then 7", noise(0x80).ldh(0x21, 0x87), 1, 7);
        dueVolume("pace 0, then 7", noise(0x80).ldh(0x21, 0x87), 7, 7);
        dueVolume("pace 0, then 7", noise(0x80).ldh(0x21, 0x87), 8, 6);
        dueVolume("without a pace nothing is counted", noise(0x80).spend(3 * 65536).ldh(0x21, 0x87), 4, 7);
    }

    /** Within 0 .. 15: at its limit VOLUME waits, and turns with bit 3. */
    private static void envelopeTurnsAtItsLimit() {
        dueVolume("at 15", noise(0xE9).spend(3 * 65536).ldh(0x21, 0xE1), 3, 15);
        dueVolume("down from 15", noise(0xE9).spend(3 * 65536).ldh(0x21, 0xE1), 4, 14);
        dueVolume("down from 15", noise(0xE9).spend(3 * 65536).ldh(0x21, 0xE1), 5, 13);
        dueVolume("up from 0", noise(0x11).spend(3 * 65536).ldh(0x21, 0x19), 5, 2);
    }

    /** A write to 11, 16, 20, 1B sets LENGTH, whether it is ON, counts, or not; it leaves ON as it is. */
    private static void lengthWriteWithoutTrigger() {
        for (int channel = 0; channel < 4; channel++) {
            int b = 0x10 + 5 * channel;
            int dac = channel == 2 ? 0x1A : b + 2;
            HandheldPair x = halted(new Rom().ldh(dac, 0xF0).ldh(b + 1, 0xFF).ldh(b + 4, 0xC0).ldh(b + 1, 0xFE));
            x.run(96);
            Checks.due("ON", on(x), 1 << channel);
            x.run(STEP);
            Checks.due("one of two", on(x), 1 << channel);
            Go.toTime(x, 3 * STEP - 4);
            Checks.due("one of two", on(x), 1 << channel);
            x.run(4);
            Checks.due("none", on(x), 0);
            HandheldPair y = halted(new Rom().ldh(dac, 0xF0).ldh(b + 1, 0xFF).ldh(b + 4, 0xC0).spend(STEP).ldh(b + 1, 0x80));
            Go.toTime(y, 2 * STEP);
            Checks.due("a LENGTH alone makes nothing ON", on(y), 0);
        }
    }

    /** Every 64th DOT since POWER ON: neither sound turned on nor the screen changes which. */
    private static void heardByPowerAlone() {
        Rom rom = new Rom().nops(3).ldh(0x26, 0).nops(2).ldh(0x26, 0x80).ldh(0x40, 0).nops(1).ldh(0x40, 0x91).ldh(4, 0);
        for (int i = 0; i < 16; i++) {
            rom.ldh(0x30 + i, 0xFF);
        }
        HandheldPair x = halted(rom.ldh(0x1A, 0x80).ldh(0x1C, 0x20).ldh(0x25, 0x44).ldh(0x1E, 0x80));
        x.run(572);
        Checks.due("TIME", x.time(0), 572);
        Checks.due("ON", on(x), 4);
        Checks.due("nothing yet", x.about(0, 20), 0);
        int want = 0;
        for (int dot = 576; dot < 576 + 640; dot += 64) {
            Go.toTime(x, dot - 4);
            Checks.due("before " + dot, x.about(0, 20), want);
            x.run(4);
            want = want * 31 + 15 * 513;
            Checks.due("at " + dot, x.about(0, 20), want);
        }
    }

    /** STOP that changes FAST makes DIVIDER 0, but leaves which STEP is the next: behind STEP 0 comes STEP 1. */
    private static void speedLeavesStep() {
        HandheldPair x = halted(new Rom().colour().ldh(0x4D, 1).spend(STEP + 64 - 36).ldh(0x17, 0xF0).ldh(0x16, 0x3F).ldh(0x19, 0xC0).code(0x10, 0));
        int stop = STEP + 64 + 60 + 4;
        Go.toTime(x, stop);
        Checks.due("FAST", x.about(0, 13), 1);
        Checks.due("DIVIDER", x.about(0, 12), 0);
        Checks.due("ON", on(x), 2);
        Go.toTime(x, stop + STEP);
        Checks.due("STEP 1", on(x), 2);
        Go.toTime(x, stop + 2 * STEP - 2);
        Checks.due("not yet", on(x), 2);
        x.run(2);
        Checks.due("STEP 2", on(x), 0);
    }

    /** All registers of three channels are written; the fourth goes on as it was. */
    private static void channelsDoNotTouchOneAnother() {
        for (int channel = 0; channel < 4; channel++) {
            int b = 0x10 + 5 * channel;
            Rom rom = new Rom().ldh(0x30, 0xF0).ldh(channel == 2 ? 0x1A : b + 2, 0xF0).ldh(b + 1, 0xFF).ldh(b + 4, 0xC0);
            for (int other = 0; other < 4; other++) {
                for (int place = 4; place >= 0 && other != channel; place--) {
                    rom.ldh(0x10 + 5 * other + place, 0x00).ldh(0x10 + 5 * other + place, 0x80);
                }
            }
            HandheldPair x = halted(rom);
            x.run(96 + 30 * 20);
            Checks.due("ON", on(x) & 1 << channel, 1 << channel);
            Go.toTime(x, STEP - 4);
            Checks.due("ON", on(x) & 1 << channel, 1 << channel);
            x.run(4);
            Checks.due("its LENGTH is 1", on(x) & 1 << channel, 0);
        }
    }
}
