import java.util.NoSuchElementException;

/** Promise 8: keys, register P1, and interrupt 4. */
public final class KeysTest {
    public static void main(String[] args) {
        wrongInputs();
        halves();
        asksWhenABitFalls();
        writeAsksToo();
        offConsole();
        Checks.end("KeysTest");
    }

    private static void wrongInputs() {
        HandheldPair x = new Rom().start();
        Checks.dueThrow("keys -1", NoSuchElementException.class, () -> x.keys(-1, 0));
        Checks.dueThrow("keys 2", NoSuchElementException.class, () -> x.keys(2, 255));
        Checks.due("P1", x.memory(0, 0xFF00), 0xCF);
    }

    private static int p1(int chosen, int keys) {
        HandheldPair x = new Rom().ldh(0, chosen).stay().start();
        x.run(40);
        x.keys(0, keys);
        return x.memory(0, 0xFF00);
    }

    private static void halves() {
        for (int bit = 0; bit < 8; bit++) {
            int low = 15 & ~(1 << bit % 4);
            Checks.due("both halves", p1(0x00, 1 << bit), 0xC0 | low);
            Checks.due("bit 4 clear", p1(0x20, 1 << bit), 0xE0 | (bit < 4 ? low : 15));
            Checks.due("bit 5 clear", p1(0x10, 1 << bit), 0xD0 | (bit < 4 ? 15 : low));
            Checks.due("none", p1(0x30, 1 << bit), 0xFF);
        }
        Checks.due("only bits 4, 5 are written", p1(0xCF, 0x13), 0xC0 | 15 & ~3);
        Checks.due("only 8 bits", p1(0, 0xFF00), 0xCF);
        HandheldPair x = new Rom().stay().start();
        x.keys(0, 0xFF);
        x.keys(0, 0x02);
        Checks.due("just these", x.memory(0, 0xFF00), 0xCD);
    }

    private static void asksWhenABitFalls() {
        HandheldPair x = new Rom().ldh(0x0F, 0).ldh(0, 0x20).stay().start();
        x.run(100);
        x.keys(0, 0xF0);
        Checks.due("a half that is not chosen", x.memory(0, 0xFF0F), 0xE0);
        x.keys(0, 0xF1);
        Checks.due("at once", x.memory(0, 0xFF0F), 0xF0);

        HandheldPair y = new Rom().ldh(0x0F, 0).ldh(0, 0).nops(8).ldh(0x0F, 0).stay().start();
        y.run(60);
        y.keys(0, 0x01);
        Checks.due("right", y.memory(0, 0xFF0F), 0xF0);
        y.run(100);
        Checks.due("cleared", y.memory(0, 0xFF0F), 0xE0);
        y.keys(0, 0x10);
        Checks.due("A holds the same bit: nothing falls", y.memory(0, 0xFF0F), 0xE0);
        y.keys(0, 0);
        Checks.due("a bit that rises", y.memory(0, 0xFF0F), 0xE0);
        y.keys(0, 0x88);
        Checks.due("down and start", y.memory(0, 0xFF0F), 0xF0);
    }

    private static void writeAsksToo() {
        HandheldPair x = new Rom().ldh(0, 0x30).ldh(0x0F, 0).ldh(0, 0x10).stay().start();
        x.keys(0, 0x0F);
        x.run(200);
        Checks.due("the other half", x.memory(0, 0xFF0F), 0xE0);
        HandheldPair y = new Rom().ldh(0, 0x30).ldh(0x0F, 0).ldh(0, 0x20).stay().start();
        y.keys(0, 0x08);
        y.run(200);
        Checks.due("a write makes a bit fall", y.memory(0, 0xFF0F), 0xF0);
    }

    private static void offConsole() {
        HandheldPair x = new HandheldPair();
        x.keys(0, 0x04);
        Checks.due("OFF", x.memory(0, 0xFF00), 0);
        new Rom().stay().insertInto(x, 0);
        Checks.due("once it is not", x.memory(0, 0xFF00), 0xCB);
        Checks.due("the other has none", x.memory(1, 0xFF00), 0);
        x.keys(0, 0);
        x.keys(0, 0x04);
        Checks.due("asked for", x.memory(0, 0xFF0F), 0xF1);
    }
}
