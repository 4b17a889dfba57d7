/** Promises 9 to 11: DIVIDER and TIMA where they run over, and each cause by which their line falls. */
public final class TimerEdgeTest {
    public static void main(String[] args) {
        dividerRunsOver();
        dividerOverCountsTima();
        timaRunsOver();
        timaFromEdgeToEdge();
        writeOfTmaBeforeAndBehind();
        writeOfTmaAlone();
        writeOfTimaEndsTheWait();
        overflowByTac();
        overflowByDivider();
        tacThatMakesNoFall();
        waitGoesOnWithoutTac();
        divideByStop();
        soundLineOfAFastProcessor();
        soundLineByStop();
        powerEndsTheWait();
        Checks.end("TimerEdgeTest");
    }

    private static HandheldPair halted(Rom rom) {
        return rom.code(0x76).start();
    }

    /** DIVIDER (16 bits): behind 65,535 comes 0. */
    private static void dividerRunsOver() {
        HandheldPair x = halted(new Rom());
        x.run(65532);
        Checks.due("DIVIDER", x.about(0, 12), 65532);
        Checks.due("its high byte", x.memory(0, 0xFF04), 255);
        x.run(4);
        Checks.due("DIVIDER", x.about(0, 12), 0);
        Checks.due("its high byte", x.memory(0, 0xFF04), 0);
        x.run(256);
        Checks.due("its high byte", x.memory(0, 0xFF04), 1);
        Checks.due("DIVIDER", x.about(0, 12), 256);
    }

    /** All its bits fall then, of each rate. */
    private static void dividerOverCountsTima() {
        int[] periods = {1024, 16, 64, 256};
        for (int rate = 0; rate < 4; rate++) {
            HandheldPair x = halted(new Rom().spend(65400 - 16).ldh(5, 0).ldh(7, 4 | rate));
            x.run(65532);
            int before = 65532 / periods[rate] - 65440 / periods[rate];
            Checks.due("TIMA", x.memory(0, 0xFF05), before);
            x.run(4);
            Checks.due("TIMA behind it", x.memory(0, 0xFF05), before + 1);
        }
    }

    /** At 256 it is 0, and WAIT is 4: at 0 TIMA becomes TMA and interrupt 2 is asked for. */
    private static void timaRunsOver() {
        int[] tmas = {0, 1, 0x80, 0xFF};
        for (int tma : tmas) {
            HandheldPair x = halted(new Rom().ldh(0x0F, 0).ldh(6, tma).ldh(7, 6).ldh(5, 0xFE));
            x.run(124);
            Checks.due("254", x.memory(0, 0xFF05), 0xFE);
            x.run(4);
            Checks.due("255", x.memory(0, 0xFF05), 0xFF);
            x.run(60);
            Checks.due("255", x.memory(0, 0xFF05), 0xFF);
            x.run(4);
            Checks.due("0", x.memory(0, 0xFF05), 0);
            Checks.due("not yet", x.memory(0, 0xFF0F), 0xE0);
            x.run(4);
            Checks.due("TMA", x.memory(0, 0xFF05), tma);
            Checks.due("interrupt 2", x.memory(0, 0xFF0F), 0xE4);
            x.run(60);
            Checks.due("TMA one more", x.memory(0, 0xFF05), tma + 1 & 255);
        }
    }

    /** 256 falls from 0 to 0. */
    private static void timaFromEdgeToEdge() {
        HandheldPair x = halted(new Rom().ldh(0x0F, 0).ldh(7, 5));
        // TAC is written at 56, the first fall comes at 64.
        x.run(64 + 254 * 16 - 4);
        Checks.due("254", x.memory(0, 0xFF05), 254);
        x.run(16);
        Checks.due("255", x.memory(0, 0xFF05), 255);
        x.run(4);
        Checks.due("not yet", x.memory(0, 0xFF0F), 0xE0);
        Checks.due("0", x.memory(0, 0xFF05), 0);
        x.run(4);
        Checks.due("interrupt 2", x.memory(0, 0xFF0F), 0xE4);
    }

    /** TIMA $FF is written at 96, runs over at 112, and becomes TMA at 116; TMA is written before that, or just then. */
    private static void writeOfTmaBeforeAndBehind() {
        for (int late = 0; late < 2; late++) {
            HandheldPair x = halted(new Rom().ldh(0x0F, 0).ldh(6, 0x11).ldh(7, 5).ldh(5, 0xFF).nops(1 + late).code(0xE0, 6).nops(4));
            x.run(112);
            Checks.due("0 until WAIT ends", x.memory(0, 0xFF05), late == 0 ? 0 : 0x11);
            x.run(4);
            Checks.due("TIME", x.time(0), 116);
            Checks.due("TMA", x.memory(0, 0xFF06), 0xFF);
            Checks.due("TMA as it was at that CLOCK", x.memory(0, 0xFF05), late == 0 ? 0xFF : 0x11);
        }
    }

    /** A write to TIMA sets WAIT to 0; behind the change it just writes. */
    private static void writeOfTimaEndsTheWait() {
        for (int late = 0; late < 3; late++) {
            HandheldPair x = halted(new Rom().ldh(0x0F, 0).ldh(6, 0x11).ldh(7, 5).ldh(5, 0xFF).code(0x3E, 0x33).nops(late).code(0xE0, 5).nops(4));
            // The write ends at 116, 120, 124; TIMA runs over at 112.
            x.run(116 + 4 * late);
            Checks.due("what was written", x.memory(0, 0xFF05), 0x33);
            Checks.due("asked for before it", x.memory(0, 0xFF0F), 0xE4);
        }
        for (int late = 0; late < 2; late++) {
            HandheldPair x = halted(new Rom().ldh(0x0F, 0).ldh(6, 0x11).ldh(7, 5).ldh(5, 0xFF).nops(1 - late).code(0xE0, 5).nops(late).nops(10));
            // The write ends at 112, in the M-CYCLE of the overflow, or at 108, before it.
            x.run(120);
            Checks.due("TIMA", x.memory(0, 0xFF05), late == 0 ? 0xFF : 0x11);
            Checks.due("asked for", x.memory(0, 0xFF0F), late == 0 ? 0xE0 : 0xE4);
        }
    }

    /** Each time it falls, by whatever cause: TAC takes bit 2 away while DIVIDER's bit is set. */
    private static void overflowByTac() {
        // 76: TIMA is $FF. The write of TAC ends at 104, DIVIDER's bit 5 set from 96 to 127.
        HandheldPair x = halted(new Rom().ldh(0x0F, 0).ldh(6, 0x44).ldh(5, 0xFF).ldh(7, 6).nops(2).ldh(7, 0).nops(10));
        x.run(100);
        Checks.due("TIMA", x.memory(0, 0xFF05), 0xFF);
        x.run(24);
        Checks.due("TIMA runs over", x.memory(0, 0xFF05), 0);
        Checks.due("not yet", x.memory(0, 0xFF0F), 0xE0);
        x.run(4);
        Checks.due("TMA, though it does not count", x.memory(0, 0xFF05), 0x44);
        Checks.due("interrupt 2", x.memory(0, 0xFF0F), 0xE4);
    }

    private static void overflowByDivider() {
        HandheldPair x = halted(new Rom().ldh(0x0F, 0).ldh(6, 0x44).ldh(5, 0xFF).ldh(7, 6).nops(2).ldh(4, 0x99).nops(10));
        x.run(124);
        Checks.due("DIVIDER", x.about(0, 12), 0);
        Checks.due("TIMA runs over", x.memory(0, 0xFF05), 0);
        x.run(4);
        Checks.due("TMA", x.memory(0, 0xFF05), 0x44);
        Checks.due("interrupt 2", x.memory(0, 0xFF0F), 0xE4);
        Checks.due("DIVIDER", x.about(0, 12), 4);
    }

    private static void tacThatMakesNoFall() {
        int[][] cases = {{6, 6, 0}, {6, 2, 1}, {6, 5, 0}, {6, 4, 1}, {5, 1, 1}, {2, 6, 0}, {7, 6, 0}, {6, 7, 1}, {6, 0xFE, 0}};
        for (int[] c : cases) {
            // Both writes come while DIVIDER is 36 to 63; the second at 56: bits 3 and 5 are set, 7 and 9 not.
            HandheldPair x = halted(new Rom().ldh(7, c[0]).ldh(7, c[1]).nops(2));
            x.run(56);
            int byRate1 = c[0] == 5 ? 1 : 0;
            Checks.due("TAC " + c[0] + ", then " + c[1], x.memory(0, 0xFF05), c[2] + byRate1);
        }
    }

    private static void waitGoesOnWithoutTac() {
        // TIMA runs over at 112; TAC is 0 from 112 on, and the change comes at 116 all the same.
        HandheldPair x = halted(new Rom().ldh(0x0F, 0).ldh(6, 0x44).ldh(7, 5).ldh(5, 0xFF).code(0xAF, 0xE0, 7).nops(10));
        x.run(112);
        Checks.due("TAC", x.memory(0, 0xFF07), 0xF8);
        Checks.due("TIMA", x.memory(0, 0xFF05), 0);
        x.run(4);
        Checks.due("TMA", x.memory(0, 0xFF05), 0x44);
        Checks.due("interrupt 2", x.memory(0, 0xFF0F), 0xE4);
    }

    /** FAST: SOUND LINE is bit 13: DIVIDER made 0 is a STEP with it, and none with bit 12 and all below. */
    private static void soundLineOfAFastProcessor() {
        int[][] cases = {{8188, 0}, {8192, 1}, {16380, 1}, {4096, 0}};
        for (int[] c : cases) {
            for (int stop = 0; stop < 2; stop++) {
                // DIVIDER is 0 at 40; then 3 writes take 60 CLOCKS, the last instruction 20 or 4.
                Rom rom = new Rom().colour().ldh(0x4D, 1).code(0x10, 0).ldh(0x17, 0xF0).ldh(0x16, 0x3F).ldh(0x19, 0xC0);
                if (stop == 1) {
                    rom.spend(c[0] - 60 - 4).code(0x10, 0);
                } else {
                    rom.spend(c[0] - 60 - 20).ldh(4, 0);
                }
                HandheldPair x = halted(rom);
                x.run(40 + c[0] / 2);
                Checks.due("TIME", x.time(0), 40 + c[0] / 2);
                Checks.due("DIVIDER", x.about(0, 12), 0);
                Checks.due("DIVIDER was " + c[0], x.memory(0, 0xFF26), c[1] == 1 ? 0xF0 : 0xF2);
            }
        }
    }

    /** POWER ON: WAIT is 0, so that no TMA comes and nothing is asked for. */
    private static void powerEndsTheWait() {
        HandheldPair x = halted(new Rom().ldh(0x0F, 0).ldh(6, 0x44).ldh(7, 5).ldh(5, 0xFF));
        x.run(112);
        Checks.due("TIMA", x.memory(0, 0xFF05), 0);
        x.power(0);
        x.run(16);
        Checks.due("TIMA", x.memory(0, 0xFF05), 0);
        Checks.due("TMA", x.memory(0, 0xFF06), 0);
        Checks.due("IF", x.memory(0, 0xFF0F), 0xE1);
    }

    /** STOP: DIVIDER 0, by which both lines may fall. */
    private static void divideByStop() {
        HandheldPair x = new Rom().ldh(7, 6).nops(1).code(0x10, 0x00).start();
        x.run(40);
        Checks.due("DIVIDER 40, its bit 5 set", x.memory(0, 0xFF05), 0);
        x.run(4);
        Checks.due("DIVIDER", x.about(0, 12), 0);
        Checks.due("TIMA", x.memory(0, 0xFF05), 1);
        // DIVIDER's bit 12 is set: a STEP ends LENGTH 1.
        HandheldPair y = new Rom().ldh(0x17, 0xF0).ldh(0x16, 0x3F).ldh(0x19, 0xC0).spend(4100).code(0x10, 0x00).start();
        y.run(76 + 4100);
        Checks.due("ON", y.memory(0, 0xFF26), 0xF2);
        y.run(4);
        Checks.due("not ON", y.memory(0, 0xFF26), 0xF0);
        HandheldPair z = new Rom().ldh(0x17, 0xF0).ldh(0x16, 0x3F).ldh(0x19, 0xC0).spend(4000).code(0x10, 0x00).start();
        z.run(76 + 4000 + 4);
        Checks.due("bit 12 was not set", z.memory(0, 0xFF26), 0xF2);
    }

    /** TMA is taken when WAIT ends, at no other time. */
    private static void writeOfTmaAlone() {
        int[] values = {0, 1, 0x80, 0xFF};
        for (int tima : values) {
            HandheldPair x = halted(new Rom().ldh(5, tima).ldh(6, 0x77).ldh(7, 0).ldh(6, 0x78));
            x.run(500);
            Checks.due("TIMA", x.memory(0, 0xFF05), tima);
            Checks.due("TMA", x.memory(0, 0xFF06), 0x78);
        }
    }

    /** STOP makes DIVIDER 0: the SOUND LINE, bit 12 (FAST: 13) before FAST changes, falls, and LENGTH 1 ends with STEP 0. */
    private static void soundLineByStop() {
        int[][] cases = {{4000, 0}, {4092, 0}, {4096, 1}, {8188, 1}};
        for (int[] c : cases) {
            for (int armed = 0; armed < 2; armed++) {
                Rom rom = new Rom().colour().ldh(0x17, 0xF0).ldh(0x16, 0x3F).ldh(0x19, 0xC0).ldh(0x4D, armed);
                HandheldPair x = rom.spend(c[0] - 96 - 4).code(0x10, 0).code(0x76).start();
                x.run(c[0] - 4);
                Checks.due("ON", x.memory(0, 0xFF26), 0xF2);
                x.run(4);
                Checks.due("DIVIDER", x.about(0, 12), 0);
                Checks.due("FAST", x.about(0, 13), armed);
                Checks.due("DIVIDER was " + c[0], x.memory(0, 0xFF26), c[1] == 1 ? 0xF0 : 0xF2);
            }
            // FAST from 40 on: DIVIDER has so many CLOCKS again at the second STOP.
            for (int k = 1; k <= 2; k++) {
                Rom rom = new Rom().colour().ldh(0x4D, 1).code(0x10, 0).ldh(0x17, 0xF0).ldh(0x16, 0x3F).ldh(0x19, 0xC0).ldh(0x4D, 1);
                HandheldPair x = rom.spend(k * c[0] - 80 - 4).code(0x10, 0).code(0x76).start();
                x.run(40 + k * c[0] / 2 - 2);
                Checks.due("ON", x.memory(0, 0xFF26), 0xF2);
                x.run(2);
                Checks.due("not FAST", x.about(0, 13), 0);
                Checks.due("DIVIDER was " + k * c[0], x.memory(0, 0xFF26), c[1] == 1 && k == 2 ? 0xF0 : 0xF2);
            }
        }
    }
}
