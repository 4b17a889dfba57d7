/** Promise 9: run, and what count tells of it. */
public final class RunTest {
    public static void main(String[] args) {
        wrongInputs();
        wholeInstructions();
        bothGoOn();
        consoleZeroGoesFirst();
        waitingIsOneCycle();
        Checks.end("RunTest");
    }

    private static void wrongInputs() {
        HandheldPair x = new Rom().stay().start();
        int[] wrong = {0, -1, 80001, Integer.MAX_VALUE, Integer.MIN_VALUE};
        for (int n : wrong) {
            Checks.dueThrow("run " + n, IllegalArgumentException.class, () -> x.run(n));
        }
        Checks.due("GOAL stays", x.count(1), 0);
        Checks.due("TIME stays", x.time(0), 0);
        Checks.due("nothing done", x.count(2), 0);
        Checks.due("the longest", x.run(80000), 6667);
        Checks.due("GOAL", x.count(1), 80000);
    }

    private static void wholeInstructions() {
        HandheldPair x = new Rom().put(0x100, 0, 0, 0, 0xCD, 0x50, 0x01).stay().start();
        Checks.due("one", x.run(1), 1);
        Checks.due("TIME", x.time(0), 4);
        Checks.due("GOAL is not above TIME", x.run(3), 0);
        Checks.due("one more", x.run(1), 1);
        Checks.due("TIME", x.time(0), 8);
        Checks.due("two", x.run(8), 2);
        Checks.due("a call takes six", x.time(0), 36);
        Checks.due("GOAL", x.count(1), 13);
        Checks.due("none until GOAL is above", x.run(23), 0);
        Checks.due("count", x.count(2), 4);
        Checks.due("no other count", x.count(3), -1);
        Checks.due("no other count", x.count(-1), -1);
    }

    private static void bothGoOn() {
        HandheldPair x = new Rom().stay().start();
        new Rom().put(0x100, 0x18, 0xFE).insertInto(x, 1);
        Checks.due("both", x.run(28), 2 + 3);
        Checks.due("TIME 0", x.time(0), 28);
        Checks.due("TIME 1", x.time(1), 36);
        Checks.due("the one behind", x.run(8), 1);
        Checks.due("TIME 0", x.time(0), 40);
        Checks.due("TIME 1", x.time(1), 36);
        HandheldPair y = new HandheldPair();
        new Rom().stay().insertInto(y, 1);
        Checks.due("console 1 alone", y.run(40), 3);
        Checks.due("TIME of the other", y.time(0), 0);
    }

    /** Console 0 clocks a bit in the same M-CYCLE in which console 1 begins to write SC. */
    private static HandheldPair race(int nops) {
        HandheldPair x = new Rom().ldh(2, 0x81).nops(0x200).stay().start();
        new Rom().nops(nops).code(0x3E, 0x80, 0xE0, 0x02).stay().insertInto(x, 1);
        x.run(560);
        return x;
    }

    private static void consoleZeroGoesFirst() {
        HandheldPair x = race(130);
        Checks.due("0 went first: the other does not take part", x.about(1, 25), 8);
        Checks.due("a 1 came", x.memory(0, 0xFF01), 1);
        x = race(129);
        Checks.due("1 was behind: it takes part", x.about(1, 25), 7);
        Checks.due("its 0 came", x.memory(0, 0xFF01), 0);
    }

    private static void waitingIsOneCycle() {
        HandheldPair x = new Rom().put(0x100, 0x76).start();
        Checks.due("HALT", x.run(400), 100);
        Checks.due("HALT", x.about(0, 11), 1);
        Checks.due("TIME", x.time(0), 400);
        x = new Rom().put(0x100, 0x10).start();
        Checks.due("STOP", x.run(400), 100);
        Checks.due("STOP", x.about(0, 11), 2);
        Checks.due("STOP: PC", x.about(0, 9), 0x102);
        Checks.due("count", x.count(2), 100);
    }
}
