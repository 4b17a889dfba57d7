/** Promises 8, 9 and 11: which interrupt comes, when, and what never wakes a processor that waits. */
public final class InterruptEdgeTest {
    public static void main(String[] args) {
        onlyFiveBits();
        eachHasItsPlace();
        notWithoutIme();
        enableBehindTheNext();
        enableTwice();
        enableWhileItIs();
        enableThenDisable();
        disableThenEnable();
        powerForgetsWhatIsToCome();
        enableThenReturn();
        returnWithIme();
        stackRunsOver();
        pushesIntoIf();
        haltLooksBeforeEach();
        haltAtOnceByEnable();
        haltReadsTwice();
        haltReadsTwiceByEnable();
        haltAskedForInItsOwnCycle();
        stuckForEver();
        stopNeedsAKey();
        stopWithAKeyDown();
        stopIsNoHalt();
        stopSwitchesBothWays();
        keysAskOnlyIfABitFalls();
        Checks.end("InterruptEdgeTest");
    }

    /** IE & IF & 31: IE's bits 5 to 7 and IF's, which do not exist, ask for nothing. */
    private static void onlyFiveBits() {
        HandheldPair x = new Rom().ldh(0x0F, 0xE0).ldh(0xFF, 0xFF).code(0xFB, 0x00, 0x00, 0x00).start();
        Go.step(x, 9);
        Checks.due("IF", x.memory(0, 0xFF0F), 0xE0);
        Checks.due("IE", x.memory(0, 0xFFFF), 0xFF);
        Checks.due("no interrupt", x.about(0, 9), 0x15C);
        HandheldPair y = new Rom().ldh(0x0F, 0xFF).ldh(0xFF, 0xE0).code(0xFB, 0x76).start();
        y.run(400);
        Checks.due("IF has five bits", y.memory(0, 0xFF0F), 0xFF);
        Checks.due("HALT for ever", y.about(0, 11), 1);
    }

    private static void eachHasItsPlace() {
        for (int k = 0; k < 5; k++) {
            HandheldPair x = new Rom().ldh(0x0F, 1 << k | 16).ldh(0xFF, 1 << k | 16).code(0xFB, 0x00, 0x00).start();
            Go.step(x, 8);
            Checks.due("PC of " + k, x.about(0, 9), 0x40 + 8 * k);
            Checks.due("it goes from IF", x.memory(0, 0xFF0F), 0xE0 | (k < 4 ? 16 : 0));
            Checks.due("IE stays", x.memory(0, 0xFFFF), 1 << k | 16);
        }
    }

    private static void notWithoutIme() {
        HandheldPair x = new Rom().ldh(0x0F, 0x1F).ldh(0xFF, 0x1F).nops(4).start();
        Go.step(x, 8);
        Checks.due("PC", x.about(0, 9), 0x15B);
        Checks.due("IF", x.memory(0, 0xFF0F), 0xFF);
    }

    /** IME 1 behind the next instruction: that one is still done. */
    private static void enableBehindTheNext() {
        HandheldPair x = new Rom().ldh(0xFF, 1).code(0xFB, 0x3C, 0x3C).start();
        Go.step(x, 4);
        Checks.due("behind EI", x.about(0, 10), 0);
        Go.step(x, 1);
        Checks.due("behind the next", x.about(0, 10), 1);
        Checks.due("which was done", x.about(0, 0), 2);
        Go.step(x, 1);
        Checks.due("then the interrupt", x.about(0, 9), 0x40);
        Checks.due("pushed", x.memory(0, 0xFFFC), 0x56);
    }

    /** If it is 0 now and that is not to come already. */
    private static void enableTwice() {
        HandheldPair x = new Rom().ldh(0xFF, 1).code(0xFB, 0xFB, 0x3C).start();
        Go.step(x, 5);
        Checks.due("IME", x.about(0, 10), 1);
        Go.step(x, 1);
        Checks.due("the interrupt", x.about(0, 9), 0x40);
        Checks.due("behind the second", x.memory(0, 0xFFFC), 0x56);
        HandheldPair y = new Rom().code(0xFB, 0x00, 0xFB, 0xF3, 0x00).start();
        Go.step(y, 5);
        Checks.due("IME was 1: nothing is to come", y.about(0, 10), 0);
        Go.step(y, 1);
        Checks.due("IME", y.about(0, 10), 0);
    }

    /** EI with IME 1 lets nothing come: the interrupt right behind it leaves IME 0. */
    private static void enableWhileItIs() {
        HandheldPair x = new Rom().ldh(0x0F, 0).ldh(0xFF, 0x10).code(0xFB, 0x00, 0xFB, 0x00).start();
        Go.step(x, 8);
        Checks.due("IME", x.about(0, 10), 1);
        x.keys(0, 1);
        Go.step(x, 1);
        Checks.due("the interrupt", x.about(0, 9), 0x60);
        Checks.due("IME", x.about(0, 10), 0);
        Go.step(x, 2);
        Checks.due("IME", x.about(0, 10), 0);
    }

    /** IME 0 (at once; one that is to come does not). */
    private static void enableThenDisable() {
        HandheldPair x = new Rom().ldh(0xFF, 1).code(0xFB, 0xF3, 0x00, 0x00, 0x00).start();
        for (int i = 0; i < 5; i++) {
            Go.step(x, i == 0 ? 4 : 1);
            Checks.due("IME", x.about(0, 10), 0);
        }
        Checks.due("no interrupt", x.about(0, 9), 0x159);
    }

    private static void disableThenEnable() {
        HandheldPair x = new Rom().code(0xF3, 0xFB, 0x00, 0xF3, 0xF3, 0xFB, 0xF3, 0xFB, 0x00).start();
        Go.step(x, 4);
        Checks.due("IME", x.about(0, 10), 1);
        Go.step(x, 3);
        Checks.due("IME", x.about(0, 10), 0);
        Go.step(x, 3);
        Checks.due("IME", x.about(0, 10), 1);
    }

    /** POWER ON: IME 0, and nothing is to come; the first byte is read once. */
    private static void powerForgetsWhatIsToCome() {
        HandheldPair x = new Rom().put(0x100, 0xFB, 0x00, 0x00).start();
        Go.step(x, 1);
        x.power(0);
        Checks.due("IME", x.about(0, 10), 0);
        HandheldPair y = new Rom().code(0xFB, 0x00, 0x00).start();
        Go.step(y, 2);
        y.power(0);
        Go.step(y, 1);
        Checks.due("IME behind the next instruction", y.about(0, 10), 0);
        HandheldPair z = new Rom().ldh(0xFF, 1).code(0x76, 0x00).start();
        Go.step(z, 4);
        Checks.due("no halt", z.about(0, 11), 0);
        z.power(0);
        Go.step(z, 1);
        Checks.due("the first byte is read once", z.about(0, 9), 0x150);
    }

    private static void enableThenReturn() {
        HandheldPair x = new Rom().put(0x40, 0x18, 0xFE).ldh(0xFF, 1).code(0x21, 0x00, 0x03, 0xE5, 0xFB, 0xC9).start();
        Go.step(x, 7);
        Checks.due("the return is done", x.about(0, 9), 0x300);
        Checks.due("IME", x.about(0, 10), 1);
        Go.step(x, 1);
        Checks.due("then the interrupt", x.about(0, 9), 0x40);
        Checks.due("pushed", x.memory(0, 0xFFFC) | x.memory(0, 0xFFFD) << 8, 0x300);
    }

    /** Return, IME 1: at once, not behind the next. */
    private static void returnWithIme() {
        HandheldPair x = new Rom().ldh(0xFF, 1).code(0x21, 0x00, 0x03, 0xE5, 0xD9).start();
        Go.step(x, 6);
        Checks.due("PC", x.about(0, 9), 0x300);
        Checks.due("IME", x.about(0, 10), 1);
        Go.step(x, 1);
        Checks.due("the interrupt comes before the next", x.about(0, 9), 0x40);
        Checks.due("pushed", x.memory(0, 0xFFFC) | x.memory(0, 0xFFFD) << 8, 0x300);
    }

    /** SP less 1 before each: past 0. */
    private static void stackRunsOver() {
        HandheldPair x = new Rom().ldh(0xFF, 1).code(0x31, 0x01, 0x00, 0xFB, 0x00, 0x00).start();
        Go.step(x, 7);
        Checks.due("SP", x.about(0, 8), 0xFFFF);
        Checks.due("PC low is written to IE behind the choice", x.memory(0, 0xFFFF), 0x59);
        Checks.due("PC", x.about(0, 9), 0x40);
        HandheldPair even = new Rom().ldh(0xFF, 1).nops(1).code(0x31, 0x01, 0x00, 0xFB, 0x00, 0x00).start();
        Go.step(even, 8);
        Checks.due("IE has no bit of it then", even.memory(0, 0xFFFF), 0x5A);
        Checks.due("PC", even.about(0, 9), 0x40);
        Checks.due("it goes from IF", even.memory(0, 0xFF0F), 0xE0);
        HandheldPair y = new Rom().ldh(0xFF, 2).ldh(0x0F, 2).code(0x31, 0x00, 0x00, 0xFB, 0x00, 0x00).start();
        Go.step(y, 9);
        Checks.due("SP", y.about(0, 8), 0xFFFE);
        Checks.due("PC high is written to IE before it: none is left", y.about(0, 9), 0);
        Checks.due("IF stays", y.memory(0, 0xFF0F), 0xE2);
        Checks.due("IME", y.about(0, 10), 0);
        Checks.due("PC low", y.memory(0, 0xFFFE), 0x5D);
    }

    /** PC's bytes may be written to IF: the high one before the choice, the low one before k goes from it. */
    private static void pushesIntoIf() {
        HandheldPair x = new Rom().ldh(0xFF, 1).nops(2).code(0x31, 0x11, 0xFF, 0xFB, 0x00, 0x00).start();
        Go.step(x, 9);
        Checks.due("SP", x.about(0, 8), 0xFF0F);
        Checks.due("PC", x.about(0, 9), 0x40);
        Checks.due("$5B, less bit 0", x.memory(0, 0xFF0F), 0xFA);
        HandheldPair y = new Rom(0x800).put(0x150, 0xC3, 0x00, 0x06).put(0x600, 0x3E, 0x05, 0xE0, 0xFF, 0x31, 0x10, 0xFF, 0xFB, 0x00, 0x00).start();
        Go.step(y, 8);
        Checks.due("PC's high byte, 6, is IF: interrupt 2", y.about(0, 9), 0x50);
        Checks.due("it goes from IF", y.memory(0, 0xFF0F), 0xE2);
        Checks.due("IE", y.memory(0, 0xFFFF), 5);
    }

    /** Idle M-CYCLES until IE & IF & 31 is not 0 (looked at before each). */
    private static void haltLooksBeforeEach() {
        // TIMA is $FF from 76 on; DIVIDER's bit 3 falls at 112, the interrupt is asked for at 116.
        HandheldPair x = new Rom().ldh(0x0F, 0).ldh(0xFF, 4).ldh(0x07, 5).ldh(0x05, 0xFF).code(0x76, 0x3C).start();
        x.run(112);
        Checks.due("HALT", x.about(0, 11), 1);
        Checks.due("not asked for", x.memory(0, 0xFF0F), 0xE0);
        x.run(4);
        Checks.due("asked for in the last idle one", x.memory(0, 0xFF0F), 0xE4);
        Checks.due("A", x.about(0, 0), 0xFF);
        x.run(4);
        Checks.due("no more: the next instruction is done", x.about(0, 0), 0);
        Checks.due("it runs", x.about(0, 11), 0);
        Checks.due("TIME", x.time(0), 120);
    }

    /** EI, HALT: IME is still 0 at HALT; it is 1 behind it. */
    private static void haltAtOnceByEnable() {
        HandheldPair x = new Rom().ldh(0x0F, 0).ldh(0xFF, 0x10).code(0xFB, 0x76, 0x3C).start();
        x.run(200);
        Checks.due("HALT", x.about(0, 11), 1);
        Checks.due("IME", x.about(0, 10), 1);
        x.keys(0, 1);
        x.run(1);
        Checks.due("the interrupt, without an idle one", x.about(0, 9), 0x60);
        Checks.due("it runs", x.about(0, 11), 0);
        Checks.due("pushed: behind HALT", x.memory(0, 0xFFFC), 0x5A);
    }

    /** IME 0 and IE & IF & 31 not 0: the next instruction's first byte is read without PC going on. */
    private static void haltReadsTwice() {
        HandheldPair x = new Rom().ldh(0xFF, 1).code(0x76, 0x01, 0x02, 0x00).start();
        Go.step(x, 5);
        Checks.due("nn begins with the byte itself", x.about(0, 2) << 8 | x.about(0, 3), 0x0201);
        Checks.due("PC", x.about(0, 9), 0x157);
        HandheldPair y = new Rom().ldh(0xFF, 1).code(0x76, 0xCB, 0x27).start();
        Go.step(y, 5);
        Checks.due("$CB $CB: bit 1 of E becomes 1", y.about(0, 5), 0xDA);
        Checks.due("PC", y.about(0, 9), 0x156);
        HandheldPair z = new Rom().ldh(0xFF, 0x1E).code(0x76, 0x3C, 0x00).start();
        Go.step(z, 5);
        Checks.due("what is asked for is not allowed: a halt", z.about(0, 11), 1);
        HandheldPair jump = new Rom().ldh(0xFF, 1).code(0x76, 0xC7).start();
        Go.step(jump, 5);
        Checks.due("a call pushes the place of the byte itself", jump.memory(0, 0xFFFC), 0x55);
    }

    /** STUCK: idle M-CYCLES for ever, whatever is asked for or pressed. */
    private static void stuckForEver() {
        int[] codes = {0xD3, 0xDB, 0xDD, 0xE3, 0xE4, 0xEB, 0xEC, 0xED, 0xF4, 0xFC, 0xFD};
        for (int code : codes) {
            HandheldPair x = new Rom().ldh(0x0F, 0).ldh(0xFF, 0x1F).code(0xFB, code, 0x3C, 0x3C).start();
            x.run(100);
            Checks.due("STUCK", x.about(0, 11), 3);
            Checks.due("IME came behind it", x.about(0, 10), 1);
            x.keys(0, 0xFF);
            Checks.due("each is one idle M-CYCLE", x.run(70000), 17500);
            Checks.due("STUCK", x.about(0, 11), 3);
            Checks.due("IF", x.memory(0, 0xFF0F), 0xF1);
            Checks.due("PC", x.about(0, 9), 0x15A);
            x.power(0);
            Checks.due("power ends it", x.about(0, 11), 0);
        }
    }

    /** Until one of P1's bits 0 to 3 is 0: a key of a half that is not chosen makes none so. */
    private static void stopNeedsAKey() {
        for (int key = 0; key < 8; key++) {
            HandheldPair x = new Rom().ldh(0, key < 4 ? 0x10 : 0x20).code(0x10, 0x00, 0x3C).start();
            x.run(100);
            x.keys(0, 1 << key);
            x.run(100);
            Checks.due("the other half", x.about(0, 11), 2);
            HandheldPair y = new Rom().ldh(0, key < 4 ? 0x20 : 0x10).code(0x10, 0x00, 0x3C).start();
            y.run(100);
            Checks.due("STOP", y.about(0, 11), 2);
            y.keys(0, 1 << key);
            y.run(4);
            Checks.due("its half", y.about(0, 11), 0);
            Checks.due("the next instruction is done at once", y.about(0, 9), 0x157);
        }
        HandheldPair none = new Rom().ldh(0, 0x30).code(0x10, 0x00).start();
        none.keys(0, 0xFF);
        none.run(1000);
        Checks.due("no half", none.about(0, 11), 2);
    }

    private static void stopWithAKeyDown() {
        HandheldPair x = new Rom().code(0x10, 0x00, 0x3C).start();
        x.keys(0, 0x80);
        x.run(20);
        Checks.due("STOP, until it is looked at", x.about(0, 11), 2);
        long time = x.time(0);
        Go.step(x, 1);
        Checks.due("no idle one", x.about(0, 0), 2);
        Checks.due("TIME", x.time(0), time + 4);
    }

    /** Interrupts do not end STOP; behind it the one that waits comes first. */
    private static void stopIsNoHalt() {
        HandheldPair x = new Rom().ldh(0xFF, 0x01).ldh(0, 0x20).code(0xFB, 0x10, 0x00, 0x3C).start();
        x.run(2000);
        Checks.due("STOP", x.about(0, 11), 2);
        Checks.due("IME", x.about(0, 10), 1);
        x.keys(0, 4);
        x.run(1);
        Checks.due("the interrupt", x.about(0, 9), 0x40);
        Checks.due("pushed", x.memory(0, 0xFFFC), 0x5B);
    }

    /** With COLOUR and KEY1 bit 0: FAST changes, bit 0 is 0; else it stops. */
    private static void stopSwitchesBothWays() {
        HandheldPair x = new Rom().colour().ldh(0x4D, 0x01).code(0x10, 0x00).ldh(0x4D, 0xFF).code(0x10, 0x00).code(0x10, 0x00).start();
        x.run(40);
        Checks.due("FAST", x.about(0, 13), 1);
        Checks.due("DIVIDER", x.about(0, 12), 0);
        x.run(10);
        Checks.due("KEY1", x.memory(0, 0xFF4D), 0xFF);
        x.run(2);
        Checks.due("not FAST", x.about(0, 13), 0);
        Checks.due("KEY1", x.memory(0, 0xFF4D), 0x7E);
        Checks.due("it runs", x.about(0, 11), 0);
        Checks.due("TIME", x.time(0), 52);
        x.run(4);
        Checks.due("without bit 0 it stops", x.about(0, 11), 2);
        Checks.due("not FAST", x.about(0, 13), 0);
    }

    /** 4: one of P1's bits 0 to 3 falls (by keys or by a write). */
    private static void keysAskOnlyIfABitFalls() {
        HandheldPair x = new Rom().ldh(0x0F, 0).ldh(0, 0x30).nops(10).ldh(0, 0x10).nops(10).ldh(0x0F, 0).ldh(0, 0x00).nops(10)
            .ldh(0x0F, 0).ldh(0, 0x20).ldh(0, 0x30).stay().start();
        x.run(60);
        x.keys(0, 0x11);
        Checks.due("no half is chosen", x.memory(0, 0xFF0F), 0xE0);
        x.run(60);
        Checks.due("a write that chooses A's half", x.memory(0, 0xFF0F), 0xF0);
        x.run(80);
        Checks.due("the other half's key has the same bit", x.memory(0, 0xFF0F), 0xE0);
        x.keys(0, 0x11);
        Checks.due("the same keys", x.memory(0, 0xFF0F), 0xE0);
        x.keys(0, 0x01);
        Checks.due("one of two that hold the bit", x.memory(0, 0xFF0F), 0xE0);
        x.keys(0, 0x02);
        Checks.due("one bit rises, another falls", x.memory(0, 0xFF0F), 0xF0);
        x.run(200);
        Checks.due("bits that rise by a write", x.memory(0, 0xFF0F), 0xE0);
    }

    /** EI, HALT, and one waits: IME is 0 at HALT, so no halt; the next instruction is the interrupt's first. */
    private static void haltReadsTwiceByEnable() {
        HandheldPair x = new Rom().put(0x40, 0x3C, 0x3C, 0x3C).ldh(0xFF, 1).code(0xFB, 0x76, 0x04, 0x04).start();
        Go.step(x, 5);
        Checks.due("no halt", x.about(0, 11), 0);
        Checks.due("IME", x.about(0, 10), 1);
        Checks.due("PC", x.about(0, 9), 0x156);
        Go.step(x, 1);
        Checks.due("the interrupt", x.about(0, 9), 0x40);
        Checks.due("pushed: behind HALT", x.memory(0, 0xFFFC) | x.memory(0, 0xFFFD) << 8, 0x156);
        Go.step(x, 1);
        Checks.due("its first byte is read without PC going on", x.about(0, 9), 0x40);
        Checks.due("and done", x.about(0, 0), 2);
        Go.step(x, 1);
        Checks.due("then PC goes on", x.about(0, 9), 0x41);
        Checks.due("A", x.about(0, 0), 3);
        Checks.due("B", x.about(0, 2), 0);
    }

    /** Interrupt 2 is asked for at 116, in the very M-CYCLE that reads HALT. */
    private static void haltAskedForInItsOwnCycle() {
        for (int ime = 0; ime < 2; ime++) {
            HandheldPair x = new Rom().ldh(0x0F, 0).ldh(0xFF, 4).ldh(0x07, 5).ldh(0x05, 0xFF).code(ime == 1 ? 0xFB : 0x00, 0, 0, 0, 0x76, 0x3C, 0x3C).start();
            x.run(112);
            Checks.due("not yet", x.memory(0, 0xFF0F), 0xE0);
            x.run(4);
            Checks.due("asked for", x.memory(0, 0xFF0F), 0xE4);
            Checks.due("IME", x.about(0, 10), ime);
            Checks.due("HALT, or none without IME", x.about(0, 11), ime);
            x.run(4);
            if (ime == 1) {
                Checks.due("the interrupt, without an idle M-CYCLE", x.about(0, 9), 0x50);
                Checks.due("five M-CYCLES", x.time(0), 136);
                Checks.due("pushed: behind HALT", x.memory(0, 0xFFFC), 0x65);
                Checks.due("it runs", x.about(0, 11), 0);
            } else {
                Checks.due("the next one's byte is read without PC going on", x.about(0, 9), 0x165);
                x.run(4);
                Checks.due("and once more", x.about(0, 9), 0x166);
                Checks.due("A", x.about(0, 0), 1);
            }
        }
    }
}
