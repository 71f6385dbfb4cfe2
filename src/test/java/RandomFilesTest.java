import java.util.Arrays;

/** Every promise: files made by chance are read by the program and by the oracle, and all is asked of both. */
final class RandomFilesTest {
    private static final int FILES = 20000;
    private static final Checker CHECK = new Checker();
    private static final int[] SEEN = new int[21];

    public static void main(String[] args) {
        int files = args.length > 0 ? Integer.parseInt(args[0]) : FILES;
        SectorDocument kept = new SectorDocument();
        for (int seed = 0; seed < files; seed++) {
            RandomFile file = new RandomFile(seed);
            boolean isNew = seed % 7 == 0;
            kept = isNew ? new SectorDocument() : kept;
            put(kept, file);
            compare("file " + seed, kept, new Oracle(file.words, file.sectors));
        }
        for (int rule = 0; rule < SEEN.length; rule++) {
            CHECK.due("rule " + rule + " is met", SEEN[rule] > 0, true);
        }
        if (args.length > 0) {
            System.out.println("rules met: " + Arrays.toString(SEEN));
        }
        CHECK.finish();
    }

    private static void put(SectorDocument x, RandomFile file) {
        x.resize(file.sectors);
        for (int at = 0; at < 48; at++) {
            int[] w = file.words;
            x.put(at, w[4 * at], w[4 * at + 1], w[4 * at + 2], w[4 * at + 3]);
        }
    }

    private static void compare(String what, SectorDocument x, Oracle due) {
        int opened = due.open();
        CHECK.due(what + ": open()", x.open(), opened);
        compareEntries(what, x, due);
        int loaded = due.load();
        CHECK.due(what + ": load()", x.load(), loaded);
        SEEN[opened != 0 ? opened : loaded]++;
        compareText(what, x, due);
    }

    private static void compareEntries(String what, SectorDocument x, Oracle due) {
        CHECK.due(what + ": entries()", x.entries(), due.entries());
        for (int k = -1; k < 13; k++) {
            for (int i = -1; i < 6; i++) {
                CHECK.due(what + ": entry(" + k + ", " + i + ")", x.entry(k, i), due.entry(k, i));
            }
            for (int name : new int[] {0x444F43, 0x5430, 0x7431, 'a', 'Z', 0x6141, 0, -1, 0x4100}) {
                CHECK.due(what + ": find(" + k + ", " + name + ")", x.find(k, name), due.find(k, name));
            }
            for (int folder = 0; folder < 13; folder++) {
                int name = (int) due.entry(k, 0);
                CHECK.due(what + ": find(" + folder + ", " + name + ")", x.find(folder, name),
                    due.find(folder, name));
            }
            for (int i = -1; i < 80; i++) {
                CHECK.due(what + ": place(" + k + ", " + i + ")", x.place(k, i), due.place(k, i));
                CHECK.due(what + ": word(" + k + ", " + i + ")", x.word(k, i), due.word(k, i));
            }
        }
    }

    private static void compareText(String what, SectorDocument x, Oracle due) {
        for (int i = -1; i < 12; i++) {
            CHECK.due(what + ": length(" + i + ")", x.length(i), due.length(i));
            for (int which = -1; which < 4; which++) {
                CHECK.due(what + ": style(" + i + ", " + which + ")", x.style(i, which), due.style(i, which));
            }
        }
        for (int p = -1; p < Math.max(due.length(3), 0) + 2; p++) {
            CHECK.due(what + ": unit(" + p + ")", x.unit(p), due.unit(p));
            CHECK.due(what + ": bands(" + p + ")", x.bands(p), due.bands(p));
            CHECK.due(what + ": depth(" + p + ")", x.depth(p), due.depth(p));
            CHECK.due(what + ": shown(" + p + ")", x.shown(p), due.shown(p));
            for (int which = -1; which < 4; which++) {
                CHECK.due(what + ": look(" + p + ", " + which + ")", x.look(p, which), due.look(p, which));
            }
        }
    }
}
