/** Promise 1: both OFF, never on; nothing kept; TIMES 0. */
public final class NewObjectTest {
    public static void main(String[] args) {
        HandheldPair x = new HandheldPair();
        for (int c = 0; c < 2; c++) {
            int console = c;
            Checks.due("time", x.time(c), 0);
            for (int what = 0; what <= 25; what++) {
                Checks.due("about " + what, x.about(c, what), 0);
            }
            Checks.due("memory", x.memory(c, 0xFFFF), 0);
            Checks.due("memory", x.memory(c, 0xFF00), 0);
            Checks.due("picture", x.picture(c), 0);
            Checks.due("pixel", x.pixel(c, 159, 143), 0);
            Checks.dueThrow("saved", IndexOutOfBoundsException.class, () -> x.saved(console, 0));
            Checks.dueThrow("power", IllegalStateException.class, () -> x.power(console));
        }
        for (int k = 0; k < 2; k++) {
            int state = k;
            Checks.dueThrow("take", IllegalStateException.class, () -> x.take(state));
        }
        for (int what = 0; what < 3; what++) {
            Checks.due("count " + what, x.count(what), 0);
        }
        Checks.due("refused", x.refused(), 0);
        Checks.due("run of none", x.run(80000), 0);
        Checks.due("time behind run", x.time(0) + x.time(1), 0);
        Checks.due("GOAL", x.count(1), 80000);
        HandheldPair other = new HandheldPair();
        Checks.due("another object's GOAL", other.count(1), 0);
        Checks.end("NewObjectTest");
    }
}
