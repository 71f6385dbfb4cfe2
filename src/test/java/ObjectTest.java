/** Promises 1 to 3: a new object, put, resize. */
final class ObjectTest {
    private static final Checker CHECK = new Checker();

    public static void main(String[] args) {
        aNewObjectIsClosed();
        aNewFileHasOneSectorOfZeros();
        putWritesFourWords();
        putTakesPlacesInTheFileAlone();
        putClosesTheFile();
        putReachesBehindTheFile();
        resizeTakesOneToTwentyFour();
        resizeClosesTheFile();
        objectsAreApart();
        CHECK.finish();
    }

    private static void aNewObjectIsClosed() {
        SectorDocument x = new SectorDocument();
        CHECK.due("entries of a new object", x.entries(), -1);
        CHECK.due("entry of a new object", x.entry(0, 0), SectorDocument.NO_WORD);
        CHECK.due("find of a new object", x.find(0, 'b'), -1);
        CHECK.due("place of a new object", x.place(1, 0), -1);
        CHECK.due("word of a new object", x.word(1, 0), SectorDocument.NO_WORD);
        CHECK.due("load of a new object", x.load(), 11);
        CHECK.due("length of a new object", x.length(3), -1);
        CHECK.due("unit of a new object", x.unit(0), -1);
        CHECK.due("bands of a new object", x.bands(0), -1);
        CHECK.due("look of a new object", x.look(0, 0), SectorDocument.NO_WORD);
        CHECK.due("style of a new object", x.style(0, 0), SectorDocument.NO_WORD);
        CHECK.due("depth of a new object", x.depth(0), -1);
        CHECK.due("shown of a new object", x.shown(0), false);
        CHECK.due("NONE", SectorDocument.NONE, -1);
        CHECK.due("NO_WORD", SectorDocument.NO_WORD, 1099511627776L);
    }

    private static void aNewFileHasOneSectorOfZeros() {
        SectorDocument x = new SectorDocument();
        CHECK.due("open of a new object", x.open(), 1);
        x.put(0, SampleFile.MARK, 1, 1, 0);
        CHECK.due("open with one sector", x.open(), 1);
        x.resize(3);
        CHECK.due("open with a table of zeros", x.open(), 2);
        x.put(2, 0, -3, -2, 0);
        x.put(1, 0, 2, -2, 0);
        CHECK.due("open with a directory of zeros", x.open(), 4);
        x.put(4, 0, 5, -2, 0);
        CHECK.due("open with a root alone", x.open(), 0);
        CHECK.due("the name that was never written", x.entry(0, 0), 0);
    }

    private static void putWritesFourWords() {
        SampleFile file = new SampleFile();
        SectorDocument x = file.closed();
        CHECK.due("put", x.put(2 * SampleFile.BODY[1], 11, -22, Integer.MAX_VALUE, Integer.MIN_VALUE), true);
        CHECK.due("open", x.open(), 0);
        CHECK.due("first word", x.word(2, 8), 11);
        CHECK.due("second word", x.word(2, 9), -22);
        CHECK.due("third word", x.word(2, 10), Integer.MAX_VALUE);
        CHECK.due("fourth word", x.word(2, 11), Integer.MIN_VALUE);
        CHECK.due("the word behind", x.word(2, 12), file.words[8 * SampleFile.BODY[1] + 4]);
        CHECK.due("the word before", x.word(2, 7), file.words[8 * SampleFile.BODY[0] + 7]);
    }

    private static void putTakesPlacesInTheFileAlone() {
        SectorDocument x = new SampleFile().loaded();
        for (int at : new int[] {-1, 48, 49, Integer.MIN_VALUE, Integer.MAX_VALUE, 1 << 30}) {
            CHECK.due("put at " + at, x.put(at, 1, 2, 3, 4), false);
        }
        CHECK.due("entries after refused puts", x.entries(), 6);
        CHECK.due("length after refused puts", x.length(3), 10);
        CHECK.due("open after refused puts", x.open(), 0);
        CHECK.due("put at 47", x.put(47, 1, 2, 3, 4), true);
        CHECK.due("put at 0", x.put(0, 1, 2, 3, 4), true);
        CHECK.due("open after put at 0", x.open(), 1);
    }

    private static void putClosesTheFile() {
        SectorDocument x = new SampleFile().loaded();
        x.put(47, 0, 0, 0, 0);
        CHECK.due("entries after put", x.entries(), -1);
        CHECK.due("unit after put", x.unit(0), -1);
        CHECK.due("load after put", x.load(), 11);
        CHECK.due("open after put", x.open(), 0);
        CHECK.due("unit after open", x.unit(0), -1);
        CHECK.due("load after open", x.load(), 0);
    }

    private static void putReachesBehindTheFile() {
        SectorDocument x = new SampleFile().closed();
        x.resize(1);
        x.put(2 * SampleFile.BODY[2], 5, 6, 7, 8);
        x.resize(24);
        CHECK.due("open", x.open(), 0);
        CHECK.due("a word put behind the file", x.word(2, 16), 5);
    }

    private static void resizeTakesOneToTwentyFour() {
        SectorDocument x = new SampleFile().loaded();
        for (int n : new int[] {0, -1, 25, Integer.MIN_VALUE, Integer.MAX_VALUE}) {
            CHECK.due("resize to " + n, x.resize(n), false);
        }
        CHECK.due("length after refused resizes", x.length(3), 10);
        CHECK.due("open after refused resizes", x.open(), 0);
        for (int n = 1; n <= 24; n++) {
            CHECK.due("resize to " + n, x.resize(n), true);
        }
        CHECK.due("resize to 20", x.resize(20), true);
        CHECK.due("open with too few sectors", x.open(), 9);
        x.resize(21);
        CHECK.due("open with just enough sectors", x.open(), 0);
    }

    private static void resizeClosesTheFile() {
        SectorDocument x = new SampleFile().loaded();
        CHECK.due("resize to the same", x.resize(24), true);
        CHECK.due("entries after resize", x.entries(), -1);
        CHECK.due("length after resize", x.length(0), -1);
        CHECK.due("load after resize", x.load(), 11);
    }

    private static void objectsAreApart() {
        SectorDocument x = new SampleFile().loaded();
        SectorDocument y = new SectorDocument();
        y.resize(3);
        y.put(0, 1, 2, 3, 4);
        CHECK.due("unit of the one", x.unit(0), 'H');
        CHECK.due("unit of the other", y.unit(0), -1);
    }
}
