/** Ways of console 0 to go on: by steps, to a TIME, to a place of the program. */
final class Go {
    private Go() {
    }

    /** One step at a time: GOAL is brought just above TIME. */
    static void step(HandheldPair x, int n) {
        for (int i = 0; i < n; i++) {
            x.run((int) (x.time(0) - x.count(1)) + 1);
        }
    }

    /** Until GOAL is time; TIME is that, or what the last instruction went beyond it. */
    static void toTime(HandheldPair x, long time) {
        long left = time - x.count(1);
        while (left > 0) {
            int n = (int) Math.min(80000, left);
            x.run(n);
            left -= n;
        }
    }
}
