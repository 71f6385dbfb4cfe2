/**
 * Asks the program and the oracle the same about one file. An object is asked no more than the document
 * allows: then a new one takes its place, which has read another file before.
 */
final class Comparison {
    private static final int MOST_CALLS = 512;
    private static final int[] NAMES = {0x444F43, 0x5430, 0x7431, 'a', 'Z', 0x6141, 0, -1, 0x4100};

    private final Checker check;
    private final String what;
    private final int[] words;
    private final int sectors;
    private final SampleFile before;
    private final Oracle due;
    private SectorDocument x;
    private int calls;
    private boolean withLoad = false;

    Comparison(Checker check, String what, int[] words, int sectors, SampleFile before) {
        this.check = check;
        this.what = what;
        this.words = words;
        this.sectors = sectors;
        this.before = before;
        due = new Oracle(words, sectors);
    }

    /** Asks all; answers the number of the rule that the file breaks, 0 when it breaks none. */
    int run() {
        int opened = due.open();
        renew();
        same("open", 0, 0, ask().open(), opened);
        compareEntries();
        int loaded = due.load();
        same("load", 0, 0, ask().load(), loaded);
        withLoad = true;
        compareText();
        return opened != 0 ? opened : loaded;
    }

    private void renew() {
        x = new SectorDocument();
        calls = 0;
        read(before.words, before.sectors);
        ask().open();
        ask().load();
        read(words, sectors);
    }

    private void read(int[] row, int n) {
        ask().resize(n);
        for (int at = 0; at < 48; at++) {
            ask().put(at, row[4 * at], row[4 * at + 1], row[4 * at + 2], row[4 * at + 3]);
        }
    }

    private SectorDocument ask() {
        if (calls == MOST_CALLS) {
            renew();
            ask().open();
            if (withLoad) {
                ask().load();
            }
        }
        calls++;
        return x;
    }

    private void same(String call, int a, int b, long got, long want) {
        if (got != want) {
            check.due(what + ": " + call + "(" + a + ", " + b + ")", got, want);
        }
    }

    private void same(String call, int a, boolean got, boolean want) {
        same(call, a, 0, got ? 1 : 0, want ? 1 : 0);
    }

    private void compareEntries() {
        same("entries", 0, 0, ask().entries(), due.entries());
        for (int k = -1; k < 13; k++) {
            for (int i = -1; i < 6; i++) {
                same("entry", k, i, ask().entry(k, i), due.entry(k, i));
            }
            for (int name : NAMES) {
                same("find", k, name, ask().find(k, name), due.find(k, name));
            }
            for (int folder = 0; folder < 13; folder++) {
                int name = (int) due.entry(k, 0);
                same("find", folder, name, ask().find(folder, name), due.find(folder, name));
            }
            int words = due.place(k, 0) == -1 ? 2 : (int) due.entry(k, 3) + 2;
            for (int i = -1; i < words; i++) {
                same("place", k, i, ask().place(k, i), due.place(k, i));
                same("word", k, i, ask().word(k, i), due.word(k, i));
            }
        }
    }

    private void compareText() {
        for (int i = -1; i < 12; i++) {
            same("length", i, 0, ask().length(i), due.length(i));
            for (int which = -1; which < 4; which++) {
                same("style", i, which, ask().style(i, which), due.style(i, which));
            }
        }
        for (int p = -1; p < Math.max(due.length(3), 0) + 2; p++) {
            same("unit", p, 0, ask().unit(p), due.unit(p));
            same("bands", p, 0, ask().bands(p), due.bands(p));
            same("depth", p, 0, ask().depth(p), due.depth(p));
            same("shown", p, ask().shown(p), due.shown(p));
            for (int which = -1; which < 4; which++) {
                same("look", p, which, ask().look(p, which), due.look(p, which));
            }
        }
    }
}
