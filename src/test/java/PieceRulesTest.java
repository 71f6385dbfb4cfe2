/** Promise 10, rules 14 to 16, and the terms PIECES and, for the pieces, BANDS. */
final class PieceRulesTest {
    private static final int NARROW = SampleFile.NARROW;
    private static final int END = SampleFile.NOTES_SIZE;
    private static final Checker CHECK = new Checker();

    public static void main(String[] args) {
        theWordsExist();
        howManyBlocks();
        blocksAreGroups();
        theWordTwo();
        howManyPieces();
        nothingMore();
        whatRule14LeavesOut();
        theFirstLimit();
        theLastLimit();
        theLimitsRise();
        descriptorsBelowZero();
        narrowBytesInTheBody();
        wideBytesInTheBody();
        farDescriptors();
        theLongestPiece();
        columnOne();
        CHECK.finish();
    }

    private static SampleFile sample() {
        return new SampleFile();
    }

    private static void due(String what, SampleFile file, int rule) {
        SectorDocument x = file.opened();
        CHECK.due(what, x.load(), rule);
        CHECK.due(what + ": is loaded", x.length(3) != SectorDocument.NONE, rule == 0);
    }

    /** The pieces' 12 words, from this place of the notes on. */
    private static SampleFile piecesAt(int at) {
        SampleFile file = sample().body(5, at, 12);
        for (int i = 0; i < 12; i++) {
            file.notes(at + i, file.words[SampleFile.inChain(SampleFile.NOTES, i)]);
        }
        return file;
    }

    private static void theWordsExist() {
        CHECK.sentence("Terms: PIECES",
            "word 5 of the body is a place, word 6 a length of words in the notes; all of them exist");
        due("at the end of the notes", piecesAt(END - 12), 0);
        due("over the end of the notes", piecesAt(END - 11), 14);
        due("at 0", sample(), 0);
        for (int place : Far.out(-1, -12, 1, END - 1, END, END + 1, 64, (1 << 29) + 4)) {
            due("at " + place, sample().body(5, place), 14);
            due("at " + place + ", of no words", sample().body(5, place, 0), 14);
        }
        CHECK.sentence("Rule 14", "the words of the pieces exist and are as said");
        for (int length : Far.out(0, 1, 2, 3, 11, 13, -1, -12, END, END + 1, 256 + 12, 65536 + 12)) {
            due(length + " words", sample().body(6, length), 14);
        }
        for (int value : new int[] {Integer.MAX_VALUE, Integer.MIN_VALUE, -1, 1 << 30}) {
            due("as many words at as many", sample().body(5, value, value), 14);
        }
        due("a sum that comes round to 12", sample().body(5, Integer.MIN_VALUE, Integer.MIN_VALUE + 12), 14);
        due("a sum below the end", sample().body(5, -1, 13), 14);
        due("from the last place on", sample().body(5, Integer.MAX_VALUE, 1), 14);
        due("all words from place 1 on", sample().body(5, 1, Integer.MAX_VALUE), 14);
    }

    /** So many group blocks without modifiers, then one piece that tells the last of them. */
    private static SampleFile manyBlocks(int blocks) {
        SampleFile file = sample().body(5, 0, 2 * blocks + 6).body(7, 40, 1, 42, 48);
        for (int i = 0; i < blocks; i++) {
            file.notes(2 * i, 1, 0);
        }
        file.notes(2 * blocks, 2, 1, 0, 10, NARROW, blocks);
        return file.notes(40, -1, -1, 1, 0, 10, 0, -1, 0, 1, 0, 10, -1);
    }

    private static void howManyBlocks() {
        CHECK.sentence("Terms: PIECES", "GROUP BLOCKS, none or up to 12");
        for (int blocks = 0; blocks <= 15; blocks++) {
            due(blocks + " group blocks", manyBlocks(blocks), blocks <= 12 ? 0 : 14);
        }
    }

    private static void blocksAreGroups() {
        CHECK.sentence("Terms: PIECES", "each a word 1 and then a group");
        for (int n : Far.out(-1, -2, 0, 2, 3, 8, 9, 10, 11, END - 2, END - 1, END)) {
            due("a group of " + n, sample().notes(1, n), 14);
        }
        due("no words but a word 1", sample().body(5, 0, 1), 14);
        due("a word 1 at the end", sample().body(5, END - 1, 1).notes(END - 1, 1), 14);
        due("a block and no more", sample().body(5, 0, 3), 14);
        due("a block that takes all words", sample().notes(1, 10), 14);
        due("a block that takes more than the pieces", sample().notes(1, 11), 14);
        due("a block whose group ends with the notes", sample().notes(1, END - 2).body(6, END), 14);
        due("a last word 1 before a 0", sample().body(5, 12, 1).notes(12, 1, 0), 14);
        due("a group below 0 that leads back to a word 2",
            sample().body(5, 4, 5).notes(3, 2, 1, -3, 10, SampleFile.NARROW, 0), 14);
        for (int word : Far.out(0, -1, 3, 4, 256 + 1, 65536 + 1)) {
            due("a word " + word + " for 1", sample().notes(0, word), 14);
        }
        due("a block of one word", sample(), 0);
    }

    private static void theWordTwo() {
        CHECK.sentence("Terms: PIECES", "then a word 2 and then bands with two columns");
        for (int word : Far.out(0, -1, -2, 1, 3, 256 + 2, 65536 + 2)) {
            due("a word " + word + " for 2", sample().notes(3, word), 14);
        }
        due("a word 2 alone", sample().body(5, 3, 1), 14);
        due("a word 2 at the end of the notes", sample().body(5, END - 1, 1).notes(END - 1, 2), 14);
        due("a word 2 and n at the end of the notes", sample().body(5, END - 2, 2).notes(END - 2, 2, 1), 14);
        due("no group block", sample().body(5, 3, 9).notes(10, 0, 0), 0);
    }

    /** So many pieces of one unit each, and no group block. */
    private static SampleFile manyPieces(int n) {
        SampleFile file = sample().body(2, n, 0, 0).body(5, 0, 3 + 3 * n).body(7, 47, 1, 49, 54);
        file.notes(0, 2, n);
        for (int i = 0; i <= n; i++) {
            file.notes(2 + i, i);
        }
        for (int i = 0; i < n; i++) {
            file.notes(3 + n + i, NARROW).notes(3 + 2 * n + i, 0);
        }
        return file.notes(47, -1, -1, 1, 0, n, 0, -1, 1, 0, n, -1);
    }

    private static void howManyPieces() {
        CHECK.sentence("Terms: BANDS", "a word n at place o, 1 .. 12");
        for (int n = 0; n <= 14; n++) {
            due(n + " pieces", manyPieces(n), n >= 1 && n <= 12 ? 0 : 14);
        }
        for (int n : Far.out(0, -1, -2, 13, 256 + 2, 65536 + 2, 0x55555556, 0x55555558)) {
            due("a number of pieces " + n, sample().notes(4, n), 14);
        }
        due("a number of pieces -1 and no more words", sample().body(5, 3, 2).notes(4, -1), 14);
    }

    private static void nothingMore() {
        CHECK.sentence("Terms: PIECES", "and nothing more");
        due("a word more", sample().body(6, 13), 14);
        due("a word less", sample().body(6, 11), 14);
        due("fewer bands than words", sample().notes(4, 1), 14);
        due("more bands than words", sample().notes(4, 3), 14);
        due("a block behind the bands", sample().body(6, 14).body(7, 54).notes(12, 1, 0)
            .notes(54, -1, -1, 0, -1, 1, -1), 14);
        due("no block behind them", sample().body(7, 54).notes(54, -1, -1, 0, -1, 1, -1), 0);
    }

    private static void whatRule14LeavesOut() {
        CHECK.sentence("Rule 14", "but for the limits, descriptors and column 1");
        for (int value : Far.out(-1)) {
            due("a limit " + value, sample().notes(6, value), 15);
            due("a column 1 of " + value, sample().notes(10, value), 16);
        }
        due("a descriptor -1", sample().notes(8, -1), 16);
    }

    private static void theFirstLimit() {
        CHECK.sentence("Terms: BANDS", "the first is 0");
        for (int limit : Far.out(-1, 1, 5)) {
            due("a first limit " + limit, sample().notes(5, limit), 15);
        }
        due("a first limit 1 of one piece", manyPieces(1).notes(2, 1), 15);
        due("a first limit -1 of one piece", manyPieces(1).notes(2, -1), 15);
    }

    private static void theLastLimit() {
        CHECK.sentence("Terms: BANDS", "the last is L");
        for (int limit : Far.out(-1, 0, 6, 7, 9, 11, 400)) {
            due("a last limit " + limit, sample().notes(7, limit), 15);
        }
        due("a last limit of 10 for 9", sample().body(4, 1), 15);
        due("a last limit of 10 for 11", sample().body(4, 3), 15);
        due("a last limit of 10 for 10 in other parts", sample().body(2, 10, 0, 0), 0);
    }

    private static void theLimitsRise() {
        CHECK.sentence("Rule 15", "their limits are as said");
        due("limits as said", sample(), 0);
        due("a limit of 11", sample().notes(6, 11), 15);
        CHECK.sentence("Terms: BANDS", "The limits rise (each is greater than the one before)");
        for (int limit : Far.out(-1, 0, 10, 11)) {
            due("a second limit " + limit, sample().notes(6, limit), 15);
        }
        due("a second limit 1", sample().notes(6, 1), 0);
        due("a second limit 9", sample().notes(6, 9), 0);
        for (int i = 1; i <= 12; i++) {
            due("limit " + i + " of 12 as the one before", manyPieces(12).notes(2 + i, i - 1), 15);
            due("limit " + i + " of 12 less", manyPieces(12).notes(2 + i, i - 2), 15);
        }
        due("no positions, one piece", manyPieces(1).body(2, 0, 0, 0).notes(3, 0), 15);
        due("no positions, two pieces", sample().body(2, 0, 0, 0).notes(5, 0, 0, 0), 15);
    }

    private static void descriptorsBelowZero() {
        CHECK.sentence("Rule 16", "no descriptor is less than 0");
        for (int i = 8; i <= 9; i++) {
            for (int d : new int[] {-1, -2, Integer.MIN_VALUE, Integer.MIN_VALUE + 1, Integer.MIN_VALUE | NARROW,
                    Integer.MIN_VALUE | NARROW | 96, -256}) {
                due("descriptor " + d, sample().notes(i, d), 16);
            }
            due("descriptor 0", sample().notes(i, 0), 0);
            due("a narrow descriptor 0", sample().notes(i, NARROW), 0);
        }
    }

    private static void narrowBytesInTheBody() {
        CHECK.sentence("Rule 16", "every unit has its bytes in the body");
        int bytes = 4 * SampleFile.BODY_SIZE;
        due("six narrow, up to the end", sample().notes(8, NARROW + 2 * (bytes - 6)), 0);
        due("six narrow, up to the end, odd", sample().notes(8, NARROW + 2 * (bytes - 6) + 1), 0);
        due("six narrow, over the end", sample().notes(8, NARROW + 2 * (bytes - 5)), 16);
        due("four narrow, up to the end", sample().notes(9, NARROW + 2 * (bytes - 4)), 0);
        due("four narrow, over the end", sample().notes(9, NARROW + 2 * (bytes - 3)), 16);
        due("one narrow, the last byte", manyPieces(1).notes(4, NARROW + 2 * bytes - 1), 0);
        due("one narrow, behind the last byte", manyPieces(1).notes(4, NARROW + 2 * bytes), 16);
        due("a body of two words more", sample().sizeOf(2, 24).notes(8, NARROW + 2 * (bytes + 2)), 0);
        due("a body of 16 words", sample().sizeOf(2, 16).link(10, 12).notes(8, NARROW + 2 * 58, 0), 0);
        due("a body of 16 words, over its end", sample().sizeOf(2, 16).link(10, 12).notes(8, NARROW + 2 * 59, 0), 16);
    }

    private static void wideBytesInTheBody() {
        CHECK.sentence("Rule 16", "every unit has its bytes in the body");
        int bytes = 4 * SampleFile.BODY_SIZE;
        due("four wide, up to the end", sample().notes(9, bytes - 8), 0);
        due("four wide, over the end by one", sample().notes(9, bytes - 7), 16);
        due("four wide, over the end by two", sample().notes(9, bytes - 6), 16);
        due("six wide, up to the end", sample().notes(8, bytes - 12), 0);
        due("six wide, over the end", sample().notes(8, bytes - 11), 16);
        due("one wide, the last bytes", manyPieces(1).notes(4, bytes - 2), 0);
        due("one wide, half over the end", manyPieces(1).notes(4, bytes - 1), 16);
        due("one wide, behind the end", manyPieces(1).notes(4, bytes), 16);
        due("the last of 12, up to the end", manyPieces(12).notes(26, bytes - 2), 0);
        due("the last of 12, over the end", manyPieces(12).notes(26, bytes - 1), 16);
    }

    private static void farDescriptors() {
        CHECK.sentence("Rule 16", "every unit has its bytes in the body");
        for (int d : new int[] {NARROW - 1, NARROW - 2, 1 << 29, 1 << 28, 65536, 1 << 29 | 56, 256 + 56}) {
            due("wide from " + d, sample().notes(9, d), 16);
            due("narrow from " + d, sample().notes(9, NARROW | d), 16);
        }
        due("as far as an int goes", sample().notes(9, Integer.MAX_VALUE), 16);
        due("as far less one", sample().notes(9, Integer.MAX_VALUE - 1), 16);
    }

    /** A body of 100 words in 13 sectors, and one piece of 400 units. */
    private static SampleFile longBody(int descriptor) {
        SampleFile file = SampleFile.rootAlone(3, 4).link(4, 5).header(6, -2);
        file.write(32, 0, SampleFile.form(5, false, 0, 0, 1), -2, 0);
        file.write(36, SampleFile.T0, SampleFile.form(2, true, 0, 2, 0), 6, 17);
        file.write(40, SampleFile.DOC, SampleFile.form(2, false, 0, 0, 0), 9, 100);
        file.link(6, 7, 8).link(9, 10, 11, 12, 13, 14, 15, 16, 17, 18, 19, 20, 21);
        file.write(48, 2, 1, 0, 400, descriptor, 0, -1, -1, 1, 0, 400, 0, -1, 1, 0, 400, -1);
        for (int i = 0; i < 100; i++) {
            file.write(72 + i, 0x41414141 + i);
        }
        return file.write(72, 0xA5EC, 0, 150, 150, 100, 0, 6, 6, 1, 8, 13, 0);
    }

    private static void theLongestPiece() {
        CHECK.sentence("Rule 16", "every unit has its bytes in the body");
        due("400 narrow units in 400 bytes", longBody(NARROW), 0);
        due("400 narrow units from an odd place", longBody(NARROW + 1), 0);
        due("400 narrow units from byte 1 on", longBody(NARROW + 2), 16);
        due("400 wide units in 400 bytes", longBody(0), 16);
        SectorDocument x = longBody(NARROW).loaded();
        CHECK.due("the first unit", x.unit(0), 0xEC);
        CHECK.due("the last unit", x.unit(399), 0x41);
        CHECK.due("the unit before the last word", x.unit(396), 0x41 + 99);
    }

    private static void columnOne() {
        CHECK.sentence("Rule 16", "column 1 is 0 or tells a group block");
        for (int i = 10; i <= 11; i++) {
            for (int block : Far.out(-1, -2, 2, 3, 12, 13, 256 + 1, 65536 + 1)) {
                due("group block " + block + " of one", sample().notes(i, block), 16);
            }
            due("group block 0", sample().notes(i, 0), 0);
            due("group block 1 of one", sample().notes(i, 1), 0);
        }
        due("group block 1 of none", sample().body(5, 3, 9), 16);
        due("group block 0 of none", sample().body(5, 3, 9).notes(11, 0), 0);
        CHECK.sentence("Terms: PIECES", "column 1 is 0 or tells a group block (1 the first)");
        due("group block 12 of 12", manyBlocks(12), 0);
        due("group block 13 of 12", manyBlocks(12).notes(29, 13), 16);
        due("group block 11 of 12", manyBlocks(12).notes(29, 11), 0);
        due("group block 0 of 12", manyBlocks(12).notes(29, 0), 0);
        due("group block -1 of 12", manyBlocks(12).notes(29, -1), 16);
    }
}
