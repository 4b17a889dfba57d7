import java.util.NoSuchElementException;

/** Promises 7 to 18: the last argument that is allowed and the first that is not, and what throws changes nothing. */
public final class CallEdgeTest {
    private static final int[] NO_CONSOLES = {-1, 2, 3, 256, Integer.MIN_VALUE, Integer.MAX_VALUE};

    public static void main(String[] args) {
        noSuchConsole();
        noSuchConsoleComesFirst();
        powerOfNone();
        keysAreEightBits();
        keysAreJustThese();
        runAtItsLimits();
        runBeyondItsLimits();
        runOfNone();
        runStopsAtGoal();
        lesserTimeGoesFirst();
        memoryIsSixteenBits();
        aboutAtItsLimits();
        pixelAtItsLimits();
        pictureIsThirtyTwoBits();
        savedAtItsLimits();
        keepAtItsLimits();
        takeAtItsLimits();
        takeNeedsAKeep();
        countOfOthers();
        offIsZero();
        Checks.end("CallEdgeTest");
    }

    /** NoSuchElementException: no such CONSOLE; nothing changes. */
    private static void noSuchConsole() {
        for (int c : NO_CONSOLES) {
            HandheldPair x = Programs.busyPair();
            long before = Look.at(x, c & 15);
            int steps = x.count(2);
            Checks.dueThrow("power " + c, NoSuchElementException.class, () -> x.power(c));
            Checks.dueThrow("keys " + c, NoSuchElementException.class, () -> x.keys(c, 0xFF));
            Checks.dueThrow("memory " + c, NoSuchElementException.class, () -> x.memory(c, 0));
            Checks.dueThrow("about " + c, NoSuchElementException.class, () -> x.about(c, 0));
            Checks.dueThrow("time " + c, NoSuchElementException.class, () -> x.time(c));
            Checks.dueThrow("pixel " + c, NoSuchElementException.class, () -> x.pixel(c, 0, 0));
            Checks.dueThrow("picture " + c, NoSuchElementException.class, () -> x.picture(c));
            Checks.dueThrow("saved " + c, NoSuchElementException.class, () -> x.saved(c, 0));
            Checks.due("nothing changed", Look.at(x, c & 15), before);
            Checks.due("no step was counted", x.count(2), steps);
        }
    }

    /** Where several exceptions fit, the first of the heading is thrown. */
    private static void noSuchConsoleComesFirst() {
        HandheldPair x = new HandheldPair();
        Checks.dueThrow("power, and OFF", NoSuchElementException.class, () -> x.power(2));
        Checks.dueThrow("about, and 26", NoSuchElementException.class, () -> x.about(2, 26));
        Checks.dueThrow("about, and -1", NoSuchElementException.class, () -> x.about(-1, -1));
        Checks.dueThrow("pixel, and 160", NoSuchElementException.class, () -> x.pixel(2, 160, 0));
        Checks.dueThrow("pixel, and 144", NoSuchElementException.class, () -> x.pixel(-1, 0, 144));
        Checks.dueThrow("saved, and OFF", NoSuchElementException.class, () -> x.saved(2, 0));
        Checks.dueThrow("saved, and -1", NoSuchElementException.class, () -> x.saved(-1, -1));
        Checks.dueThrow("take 2, and none kept", IndexOutOfBoundsException.class, () -> x.take(2));
        Checks.dueThrow("take -1, and none kept", IndexOutOfBoundsException.class, () -> x.take(-1));
    }

    /** IllegalStateException: it has none. */
    private static void powerOfNone() {
        HandheldPair x = new Rom().stay().start();
        x.run(100);
        long before = Look.at(x, 0);
        Checks.dueThrow("never on", IllegalStateException.class, () -> x.power(1));
        Checks.due("nothing changed", Look.at(x, 0), before);
        Checks.due("of the one that has one", x.power(0), x.time(0));
        Checks.dueThrow("refused", UnsupportedOperationException.class, () -> x.insert(0));
        Checks.dueThrow("no more", IllegalStateException.class, () -> x.power(0));
    }

    private static void keysAreEightBits() {
        int[][] cases = {{0, 0xCF}, {0x100, 0xCF}, {0x101, 0xCE}, {-1, 0xC0}, {-256, 0xCF}, {0x80, 0xC7}, {0x7F00, 0xCF}, {Integer.MIN_VALUE, 0xCF}};
        for (int[] c : cases) {
            HandheldPair x = new Rom().stay().start();
            x.keys(0, c[0]);
            Checks.due("P1 with " + c[0], x.memory(0, 0xFF00), c[1]);
        }
    }

    /** Just these, whatever was told before; of the other CONSOLE none. */
    private static void keysAreJustThese() {
        HandheldPair x = new Rom().stay().start();
        new Rom().stay().insertInto(x, 1);
        x.keys(0, 0xFF);
        Checks.due("of the other none", x.memory(1, 0xFF00), 0xCF);
        Checks.due("the other is asked for nothing", x.memory(1, 0xFF0F), 0xE1);
        Checks.due("all", x.memory(0, 0xFF00), 0xC0);
        x.keys(0, 0x04);
        Checks.due("one", x.memory(0, 0xFF00), 0xCB);
        x.keys(0, 0);
        Checks.due("none", x.memory(0, 0xFF00), 0xCF);
    }

    private static void runAtItsLimits() {
        HandheldPair x = new Rom().put(0x100, 0x76).start();
        Checks.due("1: one idle M-CYCLE", x.run(1), 1);
        Checks.due("GOAL", x.count(1), 1);
        Checks.due("TIME", x.time(0), 4);
        Checks.due("80,000", x.run(80000), 20000);
        Checks.due("GOAL", x.count(1), 80001);
        Checks.due("TIME", x.time(0), 80004);
        Checks.due("in all", x.count(2), 20001);
        // The most that one run can do: two that are FAST, each with 40,000 idle M-CYCLES.
        Rom fast = new Rom().colour().ldh(0x4D, 1).code(0x10, 0x00, 0x76);
        HandheldPair y = fast.start();
        fast.insertInto(y, 1);
        y.run(100);
        Checks.due("two that are FAST", y.run(80000), 80000);
        Checks.due("TIME 0", y.time(0), 80100);
        Checks.due("TIME 1", y.time(1), 80100);
    }

    /** IllegalArgumentException: another n than 1 .. 80,000. */
    private static void runBeyondItsLimits() {
        HandheldPair x = Programs.busyPair();
        long before = Look.at(x, 1);
        int steps = x.count(2);
        int[] wrong = {0, -1, 80001, Integer.MIN_VALUE, Integer.MAX_VALUE};
        for (int n : wrong) {
            Checks.dueThrow("run " + n, IllegalArgumentException.class, () -> x.run(n));
        }
        Checks.due("nothing changed", Look.at(x, 1), before);
        Checks.due("no step was done", x.count(2), steps);
    }

    private static void runOfNone() {
        HandheldPair x = new HandheldPair();
        Checks.due("both OFF", x.run(1), 0);
        Checks.due("both OFF", x.run(80000), 0);
        Checks.due("GOAL all the same", x.count(1), 80001);
        Checks.due("no step", x.count(2), 0);
        Checks.due("TIME stays", x.time(0) + x.time(1), 0);
    }

    /** As long as TIME is below GOAL: at GOAL nothing goes on, one below it a whole instruction does. */
    private static void runStopsAtGoal() {
        HandheldPair x = new Rom().put(0x100, 0xC3, 0x00, 0x01).start();
        Checks.due("16 DOTS", x.run(16), 1);
        Checks.due("TIME is GOAL", x.time(0), x.count(1));
        Checks.due("one beyond", x.run(1), 1);
        Checks.due("TIME", x.time(0), 32);
        Checks.due("GOAL 31", x.run(14), 0);
        Checks.due("GOAL 32", x.run(1), 0);
        Checks.due("GOAL 33", x.run(1), 1);
        Checks.due("TIME", x.time(0), 48);
        Checks.due("in all", x.count(2), 3);
    }

    /** The one of lesser TIME goes on; 0, if both are the same; an OFF one never. */
    private static void lesserTimeGoesFirst() {
        HandheldPair x = new Rom().put(0x100, 0xC3, 0x00, 0x01).start();
        x.run(1);
        new Rom().put(0x100, 0x76).insertInto(x, 1);
        Checks.due("TIME 1 is GOAL", x.time(1), 1);
        Checks.due("console 1 alone, until 17", x.run(15), 4);
        Checks.due("TIME 0", x.time(0), 16);
        Checks.due("TIME 1", x.time(1), 17);
        Checks.due("console 0, then 1 three times", x.run(13), 4);
        Checks.due("TIME 0", x.time(0), 32);
        Checks.due("TIME 1", x.time(1), 29);
        HandheldPair y = new HandheldPair();
        new Rom().put(0x100, 0x76).insertInto(y, 1);
        Checks.due("console 0 is OFF", y.run(40), 10);
        Checks.due("its TIME stays", y.time(0), 0);
    }

    /** What the processor would read at address (16 low bits). */
    private static void memoryIsSixteenBits() {
        HandheldPair x = new Rom().put(0, 0x21).ldh(0xFF, 0x1F).ldh(0xFE, 0x2E).stay().start();
        x.run(60);
        int[][] cases = {{0, 0x21}, {0xFFFF, 0x1F}, {0x10000, 0x21}, {-1, 0x1F}, {-2, 0x2E}, {0x1FFFF, 0x1F}, {-65536, 0x21}, {Integer.MIN_VALUE, 0x21}, {Integer.MAX_VALUE, 0x1F}};
        for (int[] c : cases) {
            Checks.due("memory " + c[0], x.memory(0, c[0]), c[1]);
        }
    }

    /** IllegalArgumentException: another what than 0 .. 25; of a CONSOLE that is OFF, too. */
    private static void aboutAtItsLimits() {
        HandheldPair x = new Rom().ldh(2, 0x80).stay().start();
        x.run(40);
        Checks.due("0", x.about(0, 0), 0x80);
        Checks.due("25", x.about(0, 25), 8);
        long before = Look.at(x, 0);
        int[] wrong = {-1, 26, 27, Integer.MIN_VALUE, Integer.MAX_VALUE};
        for (int what : wrong) {
            Checks.dueThrow("about " + what, IllegalArgumentException.class, () -> x.about(0, what));
            Checks.dueThrow("about " + what + ", OFF", IllegalArgumentException.class, () -> x.about(1, what));
        }
        Checks.due("nothing changed", Look.at(x, 0), before);
        Checks.due("OFF", x.about(1, 0), 0);
        Checks.due("OFF", x.about(1, 25), 0);
    }

    /** IndexOutOfBoundsException: not within 160 x 144; of a CONSOLE that is OFF, too. */
    private static void pixelAtItsLimits() {
        HandheldPair x = new Rom().ldh(0x47, 0x03).stay().start();
        x.run(80000);
        int[][] corners = {{0, 0}, {159, 0}, {0, 143}, {159, 143}};
        for (int[] at : corners) {
            Checks.due("pixel " + at[0] + ", " + at[1], x.pixel(0, at[0], at[1]), 3);
            Checks.due("OFF", x.pixel(1, at[0], at[1]), 0);
        }
        int[][] wrong = {{-1, 0}, {160, 0}, {0, -1}, {0, 144}, {160, 144}, {-1, -1}, {160, 143}, {159, 144},
            {Integer.MIN_VALUE, 0}, {0, Integer.MAX_VALUE}, {-160, 1}, {320, -1}};
        for (int[] at : wrong) {
            Checks.dueThrow("pixel " + at[0] + ", " + at[1], IndexOutOfBoundsException.class, () -> x.pixel(0, at[0], at[1]));
            Checks.dueThrow("OFF", IndexOutOfBoundsException.class, () -> x.pixel(1, at[0], at[1]));
        }
    }

    /** For all pixels, line by line: sum = sum * 31 + pixel, from 0 (32 bits). */
    private static void pictureIsThirtyTwoBits() {
        HandheldPair x = new Rom().ldh(0x47, 0x03).stay().start();
        x.run(80000);
        int sum = 0;
        for (int i = 0; i < 160 * 144; i++) {
            sum = sum * 31 + 3;
        }
        Checks.due("picture", x.picture(0), sum);
        Checks.due("OFF", x.picture(1), 0);
    }

    /** IndexOutOfBoundsException: there is none, or it is OFF. */
    private static void savedAtItsLimits() {
        HandheldPair x = new Rom().kind(3, 3).poke(0, 10).poke(0xA000, 0xFF).poke(0x6000, 1).poke(0x4000, 3).poke(0xBFFF, 0xFE).stay().start();
        x.run(200);
        Checks.due("the first", x.saved(0, 0), 0xFF);
        Checks.due("the last", x.saved(0, 32767), 0xFE);
        int[] wrong = {-1, 32768, 65536, Integer.MIN_VALUE, Integer.MAX_VALUE};
        for (int at : wrong) {
            Checks.dueThrow("saved " + at, IndexOutOfBoundsException.class, () -> x.saved(0, at));
        }
        Checks.dueThrow("OFF", IndexOutOfBoundsException.class, () -> x.saved(1, 0));
        HandheldPair y = new Rom().kind(3, 0).start();
        Checks.dueThrow("no RAM", IndexOutOfBoundsException.class, () -> y.saved(0, 0));
        HandheldPair z = new Rom().kind(0x10, 0).start();
        Checks.dueThrow("a clock is no RAM", IndexOutOfBoundsException.class, () -> z.saved(0, 0));
    }

    private static void keepAtItsLimits() {
        HandheldPair x = Programs.busyPair();
        long before = Look.at(x, 2);
        int[] wrong = {-1, 2, 3, Integer.MIN_VALUE, Integer.MAX_VALUE};
        for (int k : wrong) {
            Checks.dueThrow("keep " + k, IndexOutOfBoundsException.class, () -> x.keep(k));
        }
        Checks.due("nothing changed", Look.at(x, 2), before);
        Checks.dueThrow("nothing was kept", IllegalStateException.class, () -> x.take(0));
        Checks.dueThrow("nothing was kept", IllegalStateException.class, () -> x.take(1));
        x.keep(0);
        x.keep(1);
        x.take(0);
        x.take(1);
        Checks.due("both are allowed", Look.at(x, 2), before);
    }

    private static void takeAtItsLimits() {
        HandheldPair x = Programs.busyPair();
        x.keep(0);
        x.keep(1);
        x.run(1000);
        long before = Look.at(x, 4);
        int[] wrong = {-1, 2, 3, Integer.MIN_VALUE, Integer.MAX_VALUE};
        for (int k : wrong) {
            Checks.dueThrow("take " + k, IndexOutOfBoundsException.class, () -> x.take(k));
        }
        Checks.due("nothing changed", Look.at(x, 4), before);
    }

    /** IllegalStateException: none was kept there. */
    private static void takeNeedsAKeep() {
        HandheldPair x = new Rom().stay().start();
        x.run(100);
        long before = Look.at(x, 0);
        Checks.dueThrow("take 0", IllegalStateException.class, () -> x.take(0));
        Checks.dueThrow("take 1", IllegalStateException.class, () -> x.take(1));
        x.keep(1);
        Checks.dueThrow("take 0, 1 was kept", IllegalStateException.class, () -> x.take(0));
        Checks.due("nothing changed", Look.at(x, 0), before);
        x.take(1);
        x.take(1);
        Checks.due("taken twice", Look.at(x, 0), before);
        HandheldPair other = new HandheldPair();
        Checks.dueThrow("another object kept nothing", IllegalStateException.class, () -> other.take(1));
    }

    private static void countOfOthers() {
        HandheldPair x = new Rom().stay().start();
        x.run(77);
        x.end(12);
        Checks.due("0", x.count(0), 12);
        Checks.due("1", x.count(1), 77);
        Checks.due("2", x.count(2), 7);
        int[] others = {-1, 3, 4, Integer.MIN_VALUE, Integer.MAX_VALUE};
        for (int what : others) {
            Checks.due("count " + what, x.count(what), -1);
        }
    }

    /** One without a cartridge is OFF: all that is told of it but TIME is 0. */
    private static void offIsZero() {
        HandheldPair x = new HandheldPair();
        x.keys(0, 0xFF);
        x.run(500);
        for (int what = 0; what <= 25; what++) {
            Checks.due("about " + what, x.about(0, what), 0);
        }
        for (int address = 0; address < 0x10000; address += 0x111) {
            Checks.due("memory " + address, x.memory(0, address), 0);
        }
        Checks.due("pixel", x.pixel(0, 80, 80), 0);
        Checks.due("picture", x.picture(0), 0);
        Checks.due("TIME", x.time(0), 0);
    }
}
