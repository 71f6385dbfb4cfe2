/** Promises 1 to 3, and the term FILE: a new object, put, resize. */
final class ObjectTest {
    private static final Checker CHECK = new Checker();

    public static void main(String[] args) {
        aNewObjectIsClosed();
        theConstants();
        theWordsAreZeroAtFirst();
        thereIsOneSectorAtFirst();
        whatBelongsToTheFile();
        putWritesFourWords();
        putReachesBehindTheFile();
        putClosesTheFile();
        putTakesPlacesInTheFileAlone();
        aRefusedPutChangesNothing();
        resizeSetsTheSize();
        resizeToTheSameSize();
        resizeClosesTheFile();
        resizeTakesOneToTwentyFour();
        aRefusedResizeChangesNothing();
        objectsAreApart();
        CHECK.finish();
    }

    private static void aNewObjectIsClosed() {
        CHECK.sentence("Promise 1", "`SectorDocument()`: As said above.");
        SectorDocument x = new SectorDocument();
        CHECK.dueClosed("a new object", x);
        CHECK.due("open of a new object", x.open(), 1);
        CHECK.due("load of a new object", x.load(), 11);
        CHECK.sentence("Terms: FILE", "at first it is closed");
        SectorDocument y = new SectorDocument();
        CHECK.dueClosed("a new object", y);
        CHECK.due("load of a new object", y.load(), 11);
        CHECK.dueClosed("a new object after load", y);
    }

    private static void theConstants() {
        CHECK.sentence("Terms: constants", "`NONE = -1`");
        CHECK.due("NONE", SectorDocument.NONE, -1);
        CHECK.sentence("Terms", "`NO_WORD = 1L << 40`");
        CHECK.due("NO_WORD", SectorDocument.NO_WORD, 1099511627776L);
    }

    /** Sectors 5 .. 23 are one stream of 152 words, none of which is written. */
    private static SectorDocument bareStream() {
        SectorDocument x = new SectorDocument();
        x.resize(24);
        x.put(0, SampleFile.MARK, 3, 1, 2);
        x.put(1, 3, 4, -2, 0);
        x.put(2, -1, -3, -3, -3);
        x.put(3, -2, 6, 7, 8);
        for (int at = 4; at < 8; at++) {
            int next = 4 * at - 7;
            x.put(at, next, next + 1, next + 2, at == 7 ? -2 : next + 3);
        }
        x.put(8, 0, SampleFile.form(5, false, 0, 0, 1), -2, 0);
        x.put(9, 'a', SampleFile.form(2, true, 0, 0, 0), 5, 152);
        return x;
    }

    private static void theWordsAreZeroAtFirst() {
        CHECK.sentence("Terms: FILE", "24 * 8 WORDS (ints, at first 0)");
        SectorDocument x = bareStream();
        CHECK.due("open", x.open(), 0);
        for (int i = 0; i < 152; i++) {
            CHECK.due("word " + (40 + i) + " of the file", x.word(1, i), 0);
            CHECK.due("its place", x.place(1, i), 40 + i);
        }
        SectorDocument y = new SectorDocument();
        y.resize(3);
        CHECK.due("open of zeros", y.open(), 1);
        y.put(0, SampleFile.MARK, 1, 1, 0);
        CHECK.due("open with a table of zeros", y.open(), 2);
        y.put(2, 0, -3, -2, 0);
        y.put(1, 0, 2, -2, 0);
        CHECK.due("open with a directory of zeros", y.open(), 4);
        y.put(4, 0, 5, -2, 0);
        CHECK.due("open with a root alone", y.open(), 0);
        CHECK.due("the name that was never written", y.entry(0, 0), 0);
    }

    private static void thereIsOneSectorAtFirst() {
        CHECK.sentence("Terms: FILE", "N is 1 .. 24, at first 1");
        SectorDocument x = new SectorDocument();
        x.put(0, SampleFile.MARK, 1, 1, 0);
        x.put(1, 0, 2, -2, 0);
        x.put(2, 0, -3, -2, 0);
        x.put(4, 0, 5, -2, 0);
        CHECK.due("open with one sector", x.open(), 1);
        CHECK.due("resize to 2", x.resize(2), true);
        CHECK.due("open with two sectors", x.open(), 3);
        CHECK.due("resize to 3", x.resize(3), true);
        CHECK.due("open with three sectors", x.open(), 0);
        CHECK.due("resize to 24", x.resize(24), true);
        CHECK.due("open with 24 sectors", x.open(), 0);
        CHECK.due("resize to 25", x.resize(25), false);
        CHECK.due("resize to 0", x.resize(0), false);
    }

    private static void whatBelongsToTheFile() {
        CHECK.sentence("Terms: FILE", "of which the first 8 * N belong to the file");
        CHECK.due("the last used sector belongs to the file", new SampleFile().sectors(21).openAnswer(), 0);
        CHECK.due("the last used sector does not", new SampleFile().sectors(20).openAnswer(), 9);
        CHECK.due("sector 23 of 24", SampleFile.rootAlone(3, 23).openAnswer(), 0);
        CHECK.due("sector 23 of 23", SampleFile.rootAlone(3, 23).sectors(23).openAnswer(), 3);
    }

    private static void putWritesFourWords() {
        CHECK.sentence("Promise 2", "Words 4 * at .. 4 * at + 3 become a, b, c, d");
        SectorDocument x = bareStream();
        for (int at = 10; at < 48; at++) {
            CHECK.due("put at " + at, x.put(at, 1000 * at, -at, 7 * at, at << 20), true);
        }
        CHECK.due("open", x.open(), 0);
        for (int at = 10; at < 48; at++) {
            CHECK.due("first word at " + at, x.word(1, 4 * at - 40), 1000 * at);
            CHECK.due("second word at " + at, x.word(1, 4 * at - 39), -at);
            CHECK.due("third word at " + at, x.word(1, 4 * at - 38), 7 * at);
            CHECK.due("fourth word at " + at, x.word(1, 4 * at - 37), at << 20);
        }
        x.put(20, 1, 2, 3, 4);
        x.put(20, Integer.MIN_VALUE, Integer.MAX_VALUE, -1, 0);
        CHECK.due("open after another put", x.open(), 0);
        long[] due = {19 << 20, Integer.MIN_VALUE, Integer.MAX_VALUE, -1, 0, 21000};
        for (int i = 0; i < due.length; i++) {
            CHECK.due("word " + (79 + i), x.word(1, 39 + i), due[i]);
        }
    }

    private static void putReachesBehindTheFile() {
        CHECK.sentence("Promise 2", "(whether or not they belong to the file)");
        SectorDocument x = bareStream();
        x.resize(1);
        CHECK.due("put behind the file", x.put(47, 5, 6, 7, 8), true);
        CHECK.due("put just behind the file", x.put(10, 1, 2, 3, 4), true);
        x.resize(24);
        CHECK.due("open", x.open(), 0);
        CHECK.due("the first word put", x.word(1, 0), 1);
        CHECK.due("the last word put", x.word(1, 151), 8);
        x.resize(2);
        x.resize(24);
        CHECK.due("open again", x.open(), 0);
        CHECK.due("what a smaller file leaves over is kept", x.word(1, 148), 5);
    }

    private static void putClosesTheFile() {
        CHECK.sentence("Promise 2", "the file is closed");
        SampleFile file = new SampleFile();
        for (int at : new int[] {0, 20, 47}) {
            SectorDocument x = file.loaded();
            int[] w = file.words;
            x.put(at, w[4 * at], w[4 * at + 1], w[4 * at + 2], w[4 * at + 3]);
            CHECK.dueClosed("after put of the same words at " + at, x);
            CHECK.due("load after put", x.load(), 11);
            CHECK.due("open after put", x.open(), 0);
            CHECK.dueNotLoaded("after put and open", x);
            CHECK.due("load after open", x.load(), 0);
        }
        SectorDocument y = file.opened();
        y.put(47, 1, 2, 3, 4);
        CHECK.dueClosed("after put behind what is used", y);
        SectorDocument z = file.sectors(21).loaded();
        z.put(42, 1, 2, 3, 4);
        CHECK.dueClosed("after put behind the file", z);
    }

    private static void putTakesPlacesInTheFileAlone() {
        CHECK.sentence("Promise 2", "Answers true; false, changing nothing, when at is not 0 .. 47.");
        SectorDocument x = new SectorDocument();
        for (int at = 0; at <= 47; at++) {
            CHECK.due("put at " + at, x.put(at, 1, 2, 3, 4), true);
        }
        for (int at : Far.out(-1, -2, -48, 48, 49, 191, 192, 255, (1 << 30) + 12, Integer.MIN_VALUE + 12)) {
            CHECK.due("put at " + at, x.put(at, 1, 2, 3, 4), false);
        }
    }

    private static void aRefusedPutChangesNothing() {
        CHECK.sentence("Promise 2", "false, changing nothing, when at is not 0 .. 47");
        for (int at : Far.out(-1, 48, (1 << 30) + 20, Integer.MIN_VALUE + 20, -44, 192)) {
            SectorDocument x = new SampleFile().loaded();
            x.put(at, 11, 12, 13, 14);
            dueUntouched("put at " + at, x);
            SectorDocument y = new SampleFile().opened();
            y.put(at, 11, 12, 13, 14);
            CHECK.due("put at " + at + " leaves an open file open", y.entries(), 6);
            CHECK.dueNotLoaded("put at " + at, y);
            SectorDocument z = new SampleFile().closed();
            z.put(at, 11, 12, 13, 14);
            CHECK.dueClosed("put at " + at, z);
        }
    }

    /** The sample is loaded as it was, and its words are what they were. */
    private static void dueUntouched(String what, SectorDocument x) {
        SampleFile file = new SampleFile();
        CHECK.due(what + ": entries()", x.entries(), 6);
        CHECK.due(what + ": length(3)", x.length(3), 10);
        CHECK.due(what + ": unit(0)", x.unit(0), 'H');
        CHECK.due(what + ": open()", x.open(), 0);
        CHECK.due(what + ": load()", x.load(), 0);
        for (int i = 0; i < SampleFile.NOTES_SIZE; i++) {
            CHECK.due(what + ": word(1, " + i + ")", x.word(1, i), file.words[SampleFile.inChain(SampleFile.NOTES, i)]);
        }
        for (int i = 0; i < SampleFile.BODY_SIZE; i++) {
            CHECK.due(what + ": word(2, " + i + ")", x.word(2, i), file.words[SampleFile.inChain(SampleFile.BODY, i)]);
        }
    }

    private static void resizeSetsTheSize() {
        CHECK.sentence("Promise 3", "N becomes n");
        for (int n = 3; n <= 24; n++) {
            SectorDocument x = SampleFile.rootAlone(n <= 8 ? 1 : 3, n - 1).closed();
            CHECK.due("resize to " + n, x.resize(n), true);
            CHECK.due("open with " + n + " sectors, as many as it needs", x.open(), 0);
            CHECK.due("resize to " + (n - 1), x.resize(n - 1), true);
            CHECK.due("open with " + (n - 1) + " sectors, one too few", x.open(), 3);
            x.resize(n);
            CHECK.due("open with " + n + " sectors again", x.open(), 0);
        }
        SectorDocument y = SampleFile.rootAlone(1, 2).closed();
        y.resize(1);
        CHECK.due("open with one sector", y.open(), 1);
        y.resize(2);
        CHECK.due("open with two sectors", y.open(), 3);
    }

    private static void resizeToTheSameSize() {
        CHECK.sentence("Promise 3", "(it may be so already)");
        SectorDocument x = new SampleFile().loaded();
        CHECK.due("resize to the same", x.resize(24), true);
        CHECK.dueClosed("after resize to the same", x);
        CHECK.due("open after resize to the same", x.open(), 0);
        SectorDocument y = new SectorDocument();
        CHECK.due("resize of a new object to 1", y.resize(1), true);
    }

    private static void resizeClosesTheFile() {
        CHECK.sentence("Promise 3", "the file is closed");
        for (int n : new int[] {1, 21, 23, 24}) {
            SectorDocument x = new SampleFile().loaded();
            x.resize(n);
            CHECK.dueClosed("after resize to " + n, x);
            CHECK.due("load after resize", x.load(), 11);
            SectorDocument y = new SampleFile().opened();
            y.resize(n);
            CHECK.dueClosed("after open and resize to " + n, y);
        }
    }

    private static void resizeTakesOneToTwentyFour() {
        CHECK.sentence("Promise 3", "Answers true; false, changing nothing, when n is not 1 .. 24.");
        SectorDocument x = new SectorDocument();
        for (int n = 1; n <= 24; n++) {
            CHECK.due("resize to " + n, x.resize(n), true);
        }
        for (int n : Far.out(0, -1, -24, 25, 26, 48, 192, 256 + 21, 65536 + 21)) {
            CHECK.due("resize to " + n, x.resize(n), false);
        }
    }

    private static void aRefusedResizeChangesNothing() {
        CHECK.sentence("Promise 3", "false, changing nothing, when n is not 1 .. 24");
        for (int n : Far.out(0, -1, 25, 256 + 1)) {
            SectorDocument x = new SampleFile().loaded();
            x.resize(n);
            dueUntouched("resize to " + n, x);
            SectorDocument y = new SampleFile().opened();
            y.resize(n);
            CHECK.due("resize to " + n + " leaves an open file open", y.entries(), 6);
            CHECK.dueNotLoaded("resize to " + n, y);
            SectorDocument z = new SampleFile().sectors(20).closed();
            z.resize(n);
            CHECK.dueClosed("resize to " + n, z);
            CHECK.due("open with the sectors that it had", z.open(), 9);
        }
    }

    private static void objectsAreApart() {
        CHECK.sentence("Promise 1", "As said above.");
        SectorDocument x = new SampleFile().loaded();
        SectorDocument y = new SectorDocument();
        y.resize(3);
        y.put(0, 1, 2, 3, 4);
        CHECK.due("open of the other", y.open(), 1);
        CHECK.due("unit of the one", x.unit(0), 'H');
        CHECK.due("unit of the other", y.unit(0), -1);
        CHECK.due("open of the one", x.open(), 0);
    }
}
