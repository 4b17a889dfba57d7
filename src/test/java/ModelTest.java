/** Promises 5 to 18: HandheldPair and the Model are asked the same, of programs by chance; each answer must be the same. */
public final class ModelTest {
    private static final int MOST_CALLS = 512;
    private static int wrong = 0;

    private final HandheldPair pair = new HandheldPair();
    private final Model model = new Model();
    private final Chance chance;
    private final long seed;
    private int calls;

    private ModelTest(long seed) {
        this.seed = seed;
        chance = new Chance(seed);
    }

    public static void main(String[] args) {
        long first = args.length > 1 ? Long.parseLong(args[1]) : 0;
        long programs = args.length > 0 ? Long.parseLong(args[0]) : 600;
        for (long seed = first; seed < first + programs && wrong < 20; seed++) {
            new ModelTest(seed).play();
        }
        System.out.println("ModelTest: " + (wrong == 0 ? "all as due" : wrong + " wrong"));
        System.exit(wrong == 0 ? 0 : 1);
    }

    private boolean due(String what, long got, long want) {
        calls++;
        if (got != want) {
            wrong++;
            System.out.println("program " + seed + ", call " + calls + ": " + what + " answered " + got + ", due is " + want);
        }
        return got == want;
    }

    private void play() {
        int theme = (int) (seed % ChanceRom.THEMES);
        if (chance.one(4)) {
            due("run", pair.run(100), model.run(100));
        }
        insert(0, theme);
        if (chance.one(2)) {
            insert(1, chance.one(3) ? chance.below(ChanceRom.THEMES) : theme);
        }
        boolean same = true;
        while (same && calls < MOST_CALLS - 190) {
            act();
            same = look(0) && (!chance.one(2) || look(1));
        }
    }

    /** The model's tape is brought along with the pair's. */
    private void insert(int c, int theme) {
        Rom rom = new ChanceRom(chance, theme).build();
        calls += rom.bringTo(pair);
        for (int i = 0; i < rom.bytes.length; i += 20) {
            if (i + 20 <= 65536) {
                model.feed(word(rom, i), word(rom, i + 4), word(rom, i + 8), word(rom, i + 12), word(rom, i + 16));
            } else {
                model.end(65536);
                for (int k = i; k < 65536; k++) {
                    model.patch(k, rom.bytes[k], false);
                }
            }
        }
        model.end(rom.bytes.length);
        due("insert", pair.insert(c), model.insert(c));
    }

    private static int word(Rom rom, int from) {
        int word = 0;
        for (int i = from; i < from + 4; i++) {
            word = word << 8 | (i < rom.bytes.length ? rom.bytes[i] : 0);
        }
        return word;
    }

    private void act() {
        int c = chance.below(2);
        int k = chance.below(2);
        switch (chance.below(12)) {
            case 0, 1, 5, 6, 7 -> {
                int v = chance.of(0, 1 << chance.below(8), chance.below(256));
                pair.keys(c, v);
                model.keys(c, v);
                calls++;
            }
            case 2 -> due("power", answer(() -> pair.power(c)), answer(() -> model.power(c)));
            case 3 -> due("keep", answer(() -> kept(k)), answer(() -> keptByModel(k)));
            case 4 -> due("take", answer(() -> taken(k)), answer(() -> takenByModel(k)));
            case 8 -> {
                if (chance.one(4)) {
                    due("insert of nothing", answer(() -> pair.insert(c)), answer(() -> model.insert(c)));
                    due("refused", pair.refused(), model.refused());
                    insert(c, chance.below(ChanceRom.THEMES));
                    due("refused", pair.refused(), model.refused());
                }
            }
            default -> {
            }
        }
        int n = 1 + chance.below(chance.of(8, 100, 3000, 30000, 80000, 80000, 80000, 80000));
        due("run(" + n + ")", pair.run(n), model.run(n));
    }

    private interface Call {
        long answer();
    }

    private static long answer(Call call) {
        try {
            return call.answer();
        } catch (RuntimeException e) {
            return -1000 - e.getClass().getName().length();
        }
    }

    private long kept(int k) {
        pair.keep(k);
        return 0;
    }

    private long keptByModel(int k) {
        model.keep(k);
        return 0;
    }

    private long taken(int k) {
        pair.take(k);
        return 0;
    }

    private long takenByModel(int k) {
        model.take(k);
        return 0;
    }

    private boolean look(int c) {
        boolean same = due("time", pair.time(c), model.time(c));
        for (int what = 0; what < 26; what++) {
            same &= due("about " + what, pair.about(c, what), model.about(c, what));
        }
        for (int i = 0; i < 12; i++) {
            int address = address();
            same &= due("memory " + Integer.toHexString(address), pair.memory(c, address), model.memory(c, address));
        }
        same &= due("picture", pair.picture(c), model.picture(c));
        int at = chance.below(chance.of(600, 33000));
        same &= due("saved", answer(() -> pair.saved(c, at)), answer(() -> model.saved(c, at)));
        same &= due("count", pair.count(1 + at % 2), model.count(1 + at % 2));
        return same;
    }

    private int address() {
        return chance.of(0xFF00 + chance.below(256), 0xFF00 + chance.below(128), 0xFE00 + chance.below(256), 0x8000 + chance.below(0x2000),
            0xC000 + chance.below(0x2000), 0xA000 + chance.below(64), chance.below(0x10000), 0xFF0F, 0xFF41, 0xFF80 + chance.below(128));
    }
}
