import java.util.Random;

/** Every promise, in any order: runs of calls made by chance, each answer compared with the oracle's. */
final class RandomCallsTest {
    private static final int RUNS = 6000;
    private static final int CALLS = 512;
    private static final int MOST_AT_ONCE = 7;
    private static final int[] EDGES = {
        Integer.MIN_VALUE, Integer.MIN_VALUE + 1, -3, -2, -1, 0, 1, 2, 24, 25, 47, 48, 191, 192, 255, 400,
        1 << 29, 1 << 30, Integer.MAX_VALUE - 1, Integer.MAX_VALUE
    };
    private static final Checker CHECK = new Checker();

    private final Random chance;
    private final String what;
    private final SectorDocument made = new SectorDocument();
    private int[] words = new int[192];
    private int sectors = 1;
    private int calls = 0;
    private Oracle due = new Oracle(words, sectors);

    private RandomCallsTest(int seed) {
        chance = new Random(seed);
        what = "run " + seed;
    }

    public static void main(String[] args) {
        int runs = args.length > 0 ? Integer.parseInt(args[0]) : RUNS;
        for (int seed = 0; seed < runs; seed++) {
            RandomCallsTest run = new RandomCallsTest(seed);
            if (seed % 10 != 0) {
                run.putAll(new RandomFile(chanceSeed(seed)));
            }
            while (run.calls + MOST_AT_ONCE <= CALLS) {
                run.call();
            }
        }
        CHECK.finish();
    }

    private SectorDocument asked() {
        calls++;
        return made;
    }

    private static long chanceSeed(int seed) {
        return 1000000L + seed;
    }

    private void putAll(RandomFile file) {
        resize(file.sectors);
        for (int at = 0; at < 48; at++) {
            int[] w = file.words;
            put(at, w[4 * at], w[4 * at + 1], w[4 * at + 2], w[4 * at + 3]);
        }
    }

    private void put(int at, int... values) {
        boolean taken = at >= 0 && at <= 47;
        CHECK.due(what + ": put(" + at + ")", asked().put(at, values[0], values[1], values[2], values[3]), taken);
        if (taken) {
            System.arraycopy(values, 0, words, 4 * at, 4);
            due = new Oracle(words, sectors);
        }
    }

    private void resize(int n) {
        boolean taken = n >= 1 && n <= 24;
        CHECK.due(what + ": resize(" + n + ")", asked().resize(n), taken);
        if (taken) {
            sectors = n;
            due = new Oracle(words, sectors);
        }
    }

    private int number(int below) {
        return chance.nextInt(8) == 0 ? EDGES[chance.nextInt(EDGES.length)] : chance.nextInt(below);
    }

    private void call() {
        int kind = chance.nextInt(100);
        if (kind < 2) {
            putSomething();
        } else if (kind < 3) {
            putBack();
        } else if (kind < 4) {
            resize(chance.nextBoolean() ? sectors : number(26));
        } else if (kind < 12) {
            CHECK.due(what + ": open()", asked().open(), due.open());
        } else if (kind < 26) {
            CHECK.due(what + ": load()", asked().load(), due.load());
        } else if (kind < 60) {
            askFile(number(12), number(70));
        } else {
            askText(number(16), number(4));
        }
    }

    /** Keeps what it changes, so that a later call may put it back. */
    private int keptAt = 0;
    private int[] kept = new int[4];

    private void putSomething() {
        int at = number(48);
        int[] values = new int[4];
        if (at >= 0 && at < 48) {
            System.arraycopy(words, 4 * at, values, 0, 4);
            keptAt = at;
            kept = values.clone();
        }
        values[chance.nextInt(4)] = number(40) - 3;
        put(at, values);
    }

    private void putBack() {
        put(keptAt, kept);
    }

    private void askFile(int k, int i) {
        CHECK.due(what + ": entries()", asked().entries(), due.entries());
        CHECK.due(what + ": entry(" + k + ", " + i % 7 + ")", asked().entry(k, i % 7), due.entry(k, i % 7));
        CHECK.due(what + ": place(" + k + ", " + i + ")", asked().place(k, i), due.place(k, i));
        CHECK.due(what + ": word(" + k + ", " + i + ")", asked().word(k, i), due.word(k, i));
        int name = (int) due.entry(i % 12, 0) ^ (chance.nextBoolean() ? 32 : 0);
        CHECK.due(what + ": find(" + k + ", " + name + ")", asked().find(k, name), due.find(k, name));
    }

    private void askText(int p, int which) {
        CHECK.due(what + ": length(" + which + ")", asked().length(which), due.length(which));
        CHECK.due(what + ": unit(" + p + ")", asked().unit(p), due.unit(p));
        CHECK.due(what + ": bands(" + p + ")", asked().bands(p), due.bands(p));
        CHECK.due(what + ": look(" + p + ", " + which + ")", asked().look(p, which), due.look(p, which));
        CHECK.due(what + ": style(" + p + ", " + which + ")", asked().style(p, which), due.style(p, which));
        CHECK.due(what + ": depth(" + p + ")", asked().depth(p), due.depth(p));
        CHECK.due(what + ": shown(" + p + ")", asked().shown(p), due.shown(p));
    }
}
