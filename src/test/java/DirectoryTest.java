/** Promises 5 to 9: entries, entry, find, place, word. */
final class DirectoryTest {
    private static final long NO_WORD = SectorDocument.NO_WORD;
    private static final Checker CHECK = new Checker();

    public static void main(String[] args) {
        entriesCountsTheReached();
        entryTells();
        entryRefuses();
        findLooksInOneFolder();
        findRefuses();
        placeOfLargeStreams();
        placeOfSmallStreams();
        placeRefuses();
        wordReadsThePlace();
        CHECK.finish();
    }

    private static void entriesCountsTheReached() {
        CHECK.due("entries", new SampleFile().opened().entries(), 6);
        SampleFile file = new SampleFile().formOf(3, SampleFile.form(1, false, 0, 0, 0));
        CHECK.due("entries without a folder's contents", file.opened().entries(), 4);
        CHECK.due("entries of a closed file", file.closed().entries(), -1);
        file.formOf(0, SampleFile.form(5, false, 1, 2, 0));
        CHECK.due("entries of a root alone", file.opened().entries(), 1);
    }

    private static void entryTells() {
        SectorDocument x = new SampleFile().nameOf(0, -3).opened();
        long[][] due = {
            {-3, 5, -1, 13, 0},
            {SampleFile.T0, 2, 0, SampleFile.NOTES_SIZE, 1},
            {SampleFile.DOC, 2, 0, SampleFile.BODY_SIZE, 2},
            {'b', 1, 0, -5, 0},
            {SampleFile.name("xy"), 2, 3, 3, 0},
            {SampleFile.name("abc"), 2, 3, 2, 1}
        };
        for (int k = 0; k < due.length; k++) {
            for (int what = 0; what < 5; what++) {
                CHECK.due("entry(" + k + ", " + what + ")", x.entry(k, what), due[k][what]);
            }
        }
    }

    private static void entryRefuses() {
        SampleFile file = new SampleFile().formOf(3, SampleFile.form(1, false, 0, 0, 4));
        file.formOf(4, SampleFile.form(2, true, 0, 0, 0));
        SectorDocument x = file.opened();
        for (int k : new int[] {-1, 5, 6, 12, 255, Integer.MIN_VALUE, Integer.MAX_VALUE}) {
            CHECK.due("entry of no reached entry " + k, x.entry(k, 0), NO_WORD);
        }
        for (int what : new int[] {-1, 5, Integer.MIN_VALUE, Integer.MAX_VALUE}) {
            CHECK.due("entry for " + what, x.entry(1, what), NO_WORD);
        }
        x.resize(24);
        CHECK.due("entry of a closed file", x.entry(0, 0), NO_WORD);
    }

    private static void findLooksInOneFolder() {
        SectorDocument x = new SampleFile().opened();
        CHECK.due("find in the root", x.find(0, SampleFile.DOC), 2);
        CHECK.due("find the first of a tree", x.find(0, SampleFile.T0), 1);
        CHECK.due("find with other letters", x.find(0, SampleFile.name("dOc")), 2);
        CHECK.due("find a folder", x.find(0, 'B'), 3);
        CHECK.due("find in a folder", x.find(3, SampleFile.name("ABC")), 5);
        CHECK.due("find below, from the root", x.find(0, SampleFile.name("abc")), -1);
        CHECK.due("find above, from a folder", x.find(3, SampleFile.DOC), -1);
        CHECK.due("find with a letter more", x.find(0, SampleFile.name("T00")), -1);
        CHECK.due("find with a letter less", x.find(0, 'T'), -1);
        CHECK.due("find in a stream", x.find(1, SampleFile.DOC), -1);
        SampleFile file = new SampleFile().nameOf(3, '{');
        CHECK.due("{ is not [", file.opened().find(0, '['), -1);
        CHECK.due("{ is itself", file.opened().find(0, '{'), 3);
    }

    private static void findRefuses() {
        SectorDocument x = new SampleFile().nameOf(0, 'r').opened();
        CHECK.due("find no name", x.find(0, 0), -1);
        CHECK.due("find an improper name", x.find(0, 0x444F00), -1);
        CHECK.due("find a negative name", x.find(0, -1), -1);
        CHECK.due("find the root", x.find(-1, 'r'), -1);
        CHECK.due("find in no entry", x.find(6, 'b'), -1);
        CHECK.due("find in entry 255", x.find(255, 'b'), -1);
        x.put(47, 0, 0, 0, 0);
        CHECK.due("find in a closed file", x.find(0, 'b'), -1);
    }

    private static void placeOfLargeStreams() {
        SectorDocument x = new SampleFile().opened();
        for (int i = 0; i < SampleFile.BODY_SIZE; i++) {
            CHECK.due("place of body word " + i, x.place(2, i), SampleFile.inChain(SampleFile.BODY, i));
        }
        CHECK.due("place behind the body", x.place(2, SampleFile.BODY_SIZE), -1);
        CHECK.due("place of the last of the notes", x.place(1, 59), 163);
    }

    private static void placeOfSmallStreams() {
        SectorDocument x = new SampleFile().opened();
        CHECK.due("place(4, 0)", x.place(4, 0), 60);
        CHECK.due("place(4, 1)", x.place(4, 1), 61);
        CHECK.due("place(4, 2)", x.place(4, 2), 56);
        CHECK.due("place(4, 3)", x.place(4, 3), -1);
        CHECK.due("place(5, 0)", x.place(5, 0), 64);
        CHECK.due("place(5, 1)", x.place(5, 1), 65);
        CHECK.due("place(5, 2)", x.place(5, 2), -1);
        SectorDocument y = new SampleFile().sizeOf(5, 0).startOf(5, -2).opened();
        CHECK.due("place in an empty stream", y.place(5, 0), -1);
        CHECK.due("15 words are a small stream", fifteenWords().place(2, 14), 8 * 8 + 6);
    }

    /** The body in the small sectors 0 .. 7; the folder is empty. */
    private static SectorDocument fifteenWords() {
        SampleFile file = new SampleFile().sizeOf(0, 16).formOf(3, SampleFile.form(1, false, 0, 0, 0));
        return file.smallTable(1, 2, 3, 4, 5, 6, 7, -2).startOf(2, 0).sizeOf(2, 15).opened();
    }

    private static void placeRefuses() {
        SectorDocument x = new SampleFile().opened();
        CHECK.due("place in the root", x.place(0, 0), -1);
        CHECK.due("place in a folder", x.place(3, 0), -1);
        CHECK.due("place in no entry", x.place(6, 0), -1);
        CHECK.due("place in entry -1", x.place(-1, 0), -1);
        CHECK.due("place in entry max", x.place(Integer.MAX_VALUE, 0), -1);
        CHECK.due("place of word -1", x.place(2, -1), -1);
        CHECK.due("place of word min", x.place(2, Integer.MIN_VALUE), -1);
        CHECK.due("place of word max", x.place(2, Integer.MAX_VALUE), -1);
        x.resize(24);
        CHECK.due("place in a closed file", x.place(2, 0), -1);
    }

    private static void wordReadsThePlace() {
        SectorDocument x = new SampleFile().base(5, -7).opened();
        CHECK.due("word(4, 0)", x.word(4, 0), 1004);
        CHECK.due("word(4, 1)", x.word(4, 1), -7);
        CHECK.due("word(4, 2)", x.word(4, 2), 1000);
        CHECK.due("word(4, 3)", x.word(4, 3), NO_WORD);
        CHECK.due("word(5, 1)", x.word(5, 1), 1009);
        CHECK.due("word(2, 0)", x.word(2, 0), 0xA5EC);
        CHECK.due("word(2, 9)", x.word(2, 9), SampleFile.PARAGRAPHS);
        CHECK.due("word(1, 12)", x.word(1, 12), -1);
        CHECK.due("word of a folder", x.word(3, 0), NO_WORD);
        CHECK.due("word of the root", x.word(0, 0), NO_WORD);
        CHECK.due("word -1", x.word(2, -1), NO_WORD);
        x.put(47, 0, 0, 0, 0);
        CHECK.due("word of a closed file", x.word(2, 0), NO_WORD);
    }
}
