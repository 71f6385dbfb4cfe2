/** Promises 5 to 9: entries, entry, find, place, word. */
final class DirectoryTest {
    private static final int NONE = SectorDocument.NONE;
    private static final long NO_WORD = SectorDocument.NO_WORD;
    private static final Checker CHECK = new Checker();

    public static void main(String[] args) {
        entriesCountsTheReached();
        entriesOfAFileThatIsNotOpen();
        entryTells();
        entryTellsThePlaceByName();
        entryOfAFileThatIsNotOpen();
        entryOfNoEntry();
        entryOfNoWhat();
        findLooksInOneFolder();
        findNone();
        findAnImproperName();
        findInNoEntry();
        findInAFileThatIsNotOpen();
        placeTells();
        placeInAFileThatIsNotOpen();
        placeInNoStream();
        placeOfNoWord();
        wordReadsThePlace();
        wordWherePlaceIsNone();
        CHECK.finish();
    }

    private static void entriesCountsTheReached() {
        CHECK.sentence("Promise 5", "How many entries are reached");
        CHECK.due("entries", new SampleFile().opened().entries(), 6);
        CHECK.due("entries when loaded", new SampleFile().loaded().entries(), 6);
        CHECK.due("entries without a folder's contents", new SampleFile().withoutFolder().opened().entries(), 4);
        CHECK.due("entries of a root alone", SampleFile.rootAlone(3, 4).opened().entries(), 1);
        CHECK.due("entries of eight", TreeFile.ofSeven().file().opened().entries(), 8);
        TreeFile full = TreeFile.ofSeven().folder(1, 'A', true, 0, 0, 8).folder(3, 'C', true, 0, 0, 9);
        full.stream(8, 'a', true, 0, 0).stream(9, 'b', true, 10, 11);
        full.stream(10, 'a', false, 0, 0).stream(11, 'c', false, 0, 0);
        CHECK.due("entries of a full directory", full.file().opened().entries(), 12);
    }

    private static void entriesOfAFileThatIsNotOpen() {
        CHECK.sentence("Promise 5", "NONE when the file is not open");
        for (SectorDocument x : States.notOpen()) {
            CHECK.due("entries", x.entries(), NONE);
        }
    }

    private static void entryTells() {
        CHECK.sentence("Promise 6", "what = 0 its name, 1 its kind, 2 the entry whose contents it belongs to "
            + "(NONE for entry 0), 3 its SIZE, 4 its place");
        SectorDocument x = new SampleFile().nameOf(0, -3).opened();
        long[][] due = {
            {-3, 5, -1, 13, 0},
            {SampleFile.T0, 2, 0, SampleFile.NOTES_SIZE, 1},
            {SampleFile.DOC, 2, 0, SampleFile.BODY_SIZE, 2},
            {'b', 1, 0, -5, 0},
            {SampleFile.name("xy"), 2, 3, 3, 0},
            {SampleFile.name("abc"), 2, 3, 2, 1}
        };
        for (int k = 0; k < due.length; k++) {
            for (int what = 0; what < 5; what++) {
                CHECK.due("entry(" + k + ", " + what + ")", x.entry(k, what), due[k][what]);
            }
        }
        for (int value : Far.out(0, -1)) {
            SectorDocument y = new SampleFile().nameOf(0, value).sizeOf(3, value).opened();
            CHECK.due("the root's name", y.entry(0, 0), value);
            CHECK.due("the SIZE of a folder", y.entry(3, 3), value);
        }
        CHECK.due("the SIZE of an empty stream",
            new SampleFile().sizeOf(5, 0).startOf(5, -2).opened().entry(5, 3), 0);
    }

    private static void entryTellsThePlaceByName() {
        CHECK.sentence("Promise 6",
            "4 its place, from 0 on, among the contents in the order of the names (0 for entry 0)");
        SectorDocument x = TreeFile.ofSeven().file().opened();
        for (int k = 0; k <= 7; k++) {
            CHECK.due("the place of " + k, x.entry(k, 4), Math.max(k - 1, 0));
        }
        SectorDocument y = new TreeFile(1).stream(1, 'b', true, 2, 0).folder(2, 'a', false, 0, 0, 3)
            .stream(3, SampleFile.name("aa"), true, 0, 4).stream(4, SampleFile.name("ab"), false, 0, 0)
            .file().opened();
        CHECK.due("the first of a folder", y.entry(3, 4), 0);
        CHECK.due("the second of a folder", y.entry(4, 4), 1);
        CHECK.due("the folder", y.entry(2, 4), 0);
        CHECK.due("the last of the root", y.entry(1, 4), 1);
        CHECK.due("the root", y.entry(0, 4), 0);
    }

    private static void entryOfAFileThatIsNotOpen() {
        CHECK.sentence("Promise 6", "NO_WORD when the file is not open");
        for (SectorDocument x : States.notOpen()) {
            for (int what = 0; what < 5; what++) {
                CHECK.due("entry(0, " + what + ")", x.entry(0, what), NO_WORD);
                CHECK.due("entry(1, " + what + ")", x.entry(1, what), NO_WORD);
            }
        }
    }

    private static void entryOfNoEntry() {
        CHECK.sentence("Promise 6", "there is no reached entry k");
        SectorDocument x = new SampleFile().formOf(4, SampleFile.form(2, true, 0, 0, 0)).opened();
        for (int k : Far.out(-1, -2, 5, 6, 7, 11, 12, 255, 256, 256 + 1, 65536 + 1)) {
            for (int what = 0; what < 5; what++) {
                CHECK.due("entry(" + k + ", " + what + ")", x.entry(k, what), NO_WORD);
            }
        }
        CHECK.due("the last reached", x.entry(4, 1), 2);
        SectorDocument y = new TreeFile(11).stream(11, 'a', true, 0, 0).file().opened();
        CHECK.due("entry 11 of 12", y.entry(11, 0), 'a');
        CHECK.due("entry 12 of 12", y.entry(12, 0), NO_WORD);
        CHECK.due("entry 10, not reached", y.entry(10, 0), NO_WORD);
        new SampleFile().putInto(y);
        CHECK.due("open with fewer entries", y.open(), 0);
        CHECK.due("entry 11 of 6, which was one before", y.entry(11, 0), NO_WORD);
        SectorDocument z = new SampleFile().opened();
        new SampleFile().withoutFolder().putInto(z);
        CHECK.due("open without the folder's contents", z.open(), 0);
        CHECK.due("entry 5, which was reached before", z.entry(5, 0), NO_WORD);
        CHECK.due("find what was reached before", z.find(3, SampleFile.name("abc")), NONE);
    }

    private static void entryOfNoWhat() {
        CHECK.sentence("Promise 6", "or what is not 0 .. 4");
        SectorDocument x = new SampleFile().opened();
        for (int what : Far.out(-1, -2, 5, 6, 256, 65536 + 1)) {
            CHECK.due("entry(0, " + what + ")", x.entry(0, what), NO_WORD);
            CHECK.due("entry(1, " + what + ")", x.entry(1, what), NO_WORD);
            CHECK.due("entry(6, " + what + ")", x.entry(6, what), NO_WORD);
        }
    }

    private static void findLooksInOneFolder() {
        CHECK.sentence("Promise 7", "The entry among the contents of entry k whose name is equal to name");
        SectorDocument x = new SampleFile().opened();
        CHECK.due("find in the root", x.find(0, SampleFile.DOC), 2);
        CHECK.due("find the first of a tree", x.find(0, SampleFile.T0), 1);
        CHECK.due("find with other letters", x.find(0, SampleFile.name("dOc")), 2);
        CHECK.due("find a folder", x.find(0, 'B'), 3);
        CHECK.due("find in a folder", x.find(3, SampleFile.name("ABC")), 5);
        CHECK.due("find the first of a folder", x.find(3, SampleFile.name("Xy")), 4);
        for (int letter = 33; letter <= 126; letter++) {
            SectorDocument y = new SampleFile().nameOf(3, letter).opened();
            for (int other = 33; other <= 126; other++) {
                boolean equal = Character.toUpperCase(letter) == Character.toUpperCase(other);
                CHECK.due("find letter " + other + " where " + letter + " is", y.find(0, other), equal ? 3 : NONE);
            }
        }
        SectorDocument z = new SampleFile().nameOf(2, SampleFile.name("aZ[`")).opened();
        CHECK.due("four letters", z.find(0, SampleFile.name("Az[`")), 2);
        CHECK.due("four letters, the last another", z.find(0, SampleFile.name("Az[@")), NONE);
        CHECK.due("four letters, the third another", z.find(0, SampleFile.name("Az{`")), NONE);
        SectorDocument all = TreeFile.ofSeven().file().opened();
        for (int k = 1; k <= 7; k++) {
            CHECK.due("find " + k + " of seven", all.find(0, 'a' + k - 1), k);
        }
    }

    private static void findNone() {
        CHECK.sentence("Promise 7", "NONE when there is none");
        SectorDocument x = new SampleFile().nameOf(0, 'r').opened();
        CHECK.due("find below, from the root", x.find(0, SampleFile.name("abc")), NONE);
        CHECK.due("find above, from a folder", x.find(3, SampleFile.DOC), NONE);
        CHECK.due("find the folder in itself", x.find(3, 'b'), NONE);
        CHECK.due("find the root in itself", x.find(0, 'r'), NONE);
        CHECK.due("find with a letter more", x.find(0, SampleFile.name("T00")), NONE);
        CHECK.due("find with a letter less", x.find(0, 'T'), NONE);
        CHECK.due("find with a letter before", x.find(0, SampleFile.name("TT0")), NONE);
        CHECK.due("find another", x.find(0, SampleFile.name("DOD")), NONE);
        CHECK.due("find in a stream", x.find(1, SampleFile.DOC), NONE);
        SectorDocument y = new SampleFile().withoutFolder().opened();
        CHECK.due("find in an empty folder", y.find(3, SampleFile.name("abc")), NONE);
        CHECK.due("find what is not reached", y.find(0, SampleFile.name("abc")), NONE);
        CHECK.due("find in a root alone", SampleFile.rootAlone(1, 4).opened().find(0, 'b'), NONE);
    }

    private static void findAnImproperName() {
        CHECK.sentence("Promise 7", "the name is not proper");
        SectorDocument x = new SampleFile().nameOf(0, 0).opened();
        for (int name : Far.out(0, -1, 32, 127, 0x4400, 0x444F00, 0x440043, 0x62000000, 0x80000062, 0x162)) {
            for (int k = -1; k <= 6; k++) {
                CHECK.due("find(" + k + ", " + name + ")", x.find(k, name), NONE);
            }
        }
    }

    private static void findInNoEntry() {
        CHECK.sentence("Promise 7", "there is no reached entry k");
        SectorDocument x = new SampleFile().nameOf(0, 'b').opened();
        for (int k : Far.out(-1, -2, 6, 7, 11, 12, 255, 256, 65536)) {
            CHECK.due("find(" + k + ", b)", x.find(k, 'b'), NONE);
            CHECK.due("find(" + k + ", DOC)", x.find(k, SampleFile.DOC), NONE);
        }
        SectorDocument y = new SampleFile().withoutFolder().opened();
        CHECK.due("find in what is not reached", y.find(4, SampleFile.name("abc")), NONE);
    }

    private static void findInAFileThatIsNotOpen() {
        CHECK.sentence("Promise 7", "or the file is not open");
        for (SectorDocument x : States.notOpen()) {
            CHECK.due("find(0, b)", x.find(0, 'b'), NONE);
            CHECK.due("find(0, DOC)", x.find(0, SampleFile.DOC), NONE);
        }
    }

    private static void placeTells() {
        CHECK.sentence("Promise 8", "The place in the file (0 .. 191) of word i of the stream k");
        SectorDocument x = new SampleFile().opened();
        for (int i = 0; i < SampleFile.BODY_SIZE; i++) {
            CHECK.due("place(2, " + i + ")", x.place(2, i), SampleFile.inChain(SampleFile.BODY, i));
        }
        for (int i = 0; i < SampleFile.NOTES_SIZE; i++) {
            CHECK.due("place(1, " + i + ")", x.place(1, i), SampleFile.inChain(SampleFile.NOTES, i));
        }
        CHECK.due("place(4, 0)", x.place(4, 0), 60);
        CHECK.due("place(4, 1)", x.place(4, 1), 61);
        CHECK.due("place(4, 2)", x.place(4, 2), 56);
        CHECK.due("place(5, 0)", x.place(5, 0), 64);
        CHECK.due("place(5, 1)", x.place(5, 1), 65);
        SectorDocument last = new SampleFile().sizeOf(2, 16).link(10, 23).opened();
        CHECK.due("the last place of the file", last.place(2, 15), 191);
    }

    private static void placeInAFileThatIsNotOpen() {
        CHECK.sentence("Promise 8", "NONE when the file is not open");
        for (SectorDocument x : States.notOpen()) {
            CHECK.due("place(2, 0)", x.place(2, 0), NONE);
            CHECK.due("place(4, 0)", x.place(4, 0), NONE);
        }
    }

    private static void placeInNoStream() {
        CHECK.sentence("Promise 8", "k is no stream");
        SectorDocument x = new SampleFile().sizeOf(3, 30).startOf(3, 21).opened();
        for (int k : Far.out(0, 3, -1, 6, 7, 11, 12, 255, 256 + 2, 65536 + 2)) {
            CHECK.due("place(" + k + ", 0)", x.place(k, 0), NONE);
            CHECK.due("place(" + k + ", -1)", x.place(k, -1), NONE);
            CHECK.due("word(" + k + ", 0)", x.word(k, 0), NO_WORD);
        }
        SectorDocument y = new SampleFile().withoutFolder().opened();
        CHECK.due("a stream that is not reached", y.place(4, 0), NONE);
        CHECK.due("another that is not reached", y.place(5, 1), NONE);
    }

    private static void placeOfNoWord() {
        CHECK.sentence("Promise 8", "or i is not one of its words");
        SectorDocument x = new SampleFile().opened();
        int[][] sizes = {{1, SampleFile.NOTES_SIZE}, {2, SampleFile.BODY_SIZE}, {4, 3}, {5, 2}};
        for (int[] size : sizes) {
            int k = size[0];
            CHECK.due("the first word of " + k, x.place(k, 0) != NONE, true);
            CHECK.due("the last word of " + k, x.place(k, size[1] - 1) != NONE, true);
            for (int i : Far.out(-1, -2, -8, size[1], size[1] + 1, size[1] + 8, 64, 191, 192, 65536 + 1)) {
                CHECK.due("place(" + k + ", " + i + ")", x.place(k, i), NONE);
            }
        }
        SectorDocument empty = new SampleFile().sizeOf(5, 0).startOf(5, -2).opened();
        CHECK.due("the first word of no words", empty.place(5, 0), NONE);
        CHECK.due("word -1 of no words", empty.place(5, -1), NONE);
        SectorDocument full = new SampleFile().sizeOf(2, 24).opened();
        CHECK.due("the last word of a full sector", full.place(2, 23), 8 * 11 + 7);
        CHECK.due("behind a full sector", full.place(2, 24), NONE);
    }

    private static void wordReadsThePlace() {
        CHECK.sentence("Promise 9", "Word i of the stream k");
        SectorDocument x = new SampleFile().base(5, -7).opened();
        CHECK.due("word(4, 0)", x.word(4, 0), 1004);
        CHECK.due("word(4, 1)", x.word(4, 1), -7);
        CHECK.due("word(4, 2)", x.word(4, 2), 1000);
        CHECK.due("word(5, 1)", x.word(5, 1), 1009);
        CHECK.due("word(2, 0)", x.word(2, 0), 0xA5EC);
        CHECK.due("word(2, 9)", x.word(2, 9), SampleFile.PARAGRAPHS);
        CHECK.due("word(1, 12)", x.word(1, 12), -1);
        for (int value : Far.out(-1, 0)) {
            SampleFile file = new SampleFile().body(21, value).base(9, value);
            CHECK.due("a last word", file.opened().word(2, 21), value);
            CHECK.due("a last small word", file.opened().word(5, 1), value);
        }
    }

    private static void wordWherePlaceIsNone() {
        CHECK.sentence("Promise 9", "NO_WORD where place would answer NONE");
        for (SectorDocument x : States.notOpen()) {
            CHECK.due("word(2, 0) of a file that is not open", x.word(2, 0), NO_WORD);
        }
        SectorDocument x = new SampleFile().sizeOf(3, 2).opened();
        for (int k : Far.out(0, 3, -1, 6, 12, 256 + 2)) {
            CHECK.due("word(" + k + ", 0)", x.word(k, 0), NO_WORD);
        }
        for (int i : Far.out(-1, 22, 23, 24, 191, 192)) {
            CHECK.due("word(2, " + i + ")", x.word(2, i), NO_WORD);
        }
        CHECK.due("word(4, 3)", x.word(4, 3), NO_WORD);
        CHECK.due("word(5, 2)", x.word(5, 2), NO_WORD);
        SectorDocument empty = new SampleFile().sizeOf(5, 0).startOf(5, -2).opened();
        CHECK.due("the first word of no words", empty.word(5, 0), NO_WORD);
    }
}
