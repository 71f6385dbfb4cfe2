import java.util.Arrays;

/** Promise 4, rules 8 to 10, and the terms SMALL SECTORS and STREAM. */
final class StreamRulesTest {
    private static final Checker CHECK = new Checker();

    public static void main(String[] args) {
        theChainsOfRule8();
        theSizeOfTheBase();
        howManySmallSectors();
        entriesOfTheSmallTable();
        smallChains();
        wordsOfTheBase();
        sizesOfStreams();
        largeOrSmall();
        chainsOfStreamsAreSound();
        largeChainsAreAsLongAsNeeded();
        smallChainsAreAsLongAsNeeded();
        whatIsNoStream();
        noSectorTwice();
        noSmallSectorTwice();
        CHECK.finish();
    }

    private static SampleFile sample() {
        return new SampleFile();
    }

    private static void due(String what, SampleFile file, int rule) {
        SectorDocument x = file.closed();
        CHECK.due(what, x.open(), rule);
        CHECK.due(what + ": is open", x.entries() != SectorDocument.NONE, rule == 0);
    }

    private static void theChainsOfRule8() {
        CHECK.sentence("Rule 8", "the chains of the base and of the small table are sound");
        due("a base that comes back", sample().table(8, 7), 8);
        due("a base in the table", sample().startOf(0, 1), 8);
        due("a small table that comes back", sample().table(9, 9), 8);
        due("a small table in the table", sample().header(6, 3), 8);
        for (int start : Far.out(-1, -3, 0, 24, (1 << 29) + 7)) {
            due("a base at " + start, sample().startOf(0, start), 8);
            due("a base of no words at " + start, sample().withoutFolder().startOf(0, start).sizeOf(0, 0), 8);
            due("a small table at " + start, sample().header(6, start), 8);
            due("a small table for nothing at " + start, sample().withoutFolder().header(6, start), 8);
        }
        due("a base that nothing needs", sample().withoutFolder(), 0);
    }

    private static void theSizeOfTheBase() {
        CHECK.sentence("Rule 8", "the SIZE of entry 0 is not less than 0");
        due("0 words", sample().withoutFolder().sizeOf(0, 0), 0);
        due("-1 words", sample().withoutFolder().sizeOf(0, -1), 8);
        due("-16 words", sample().withoutFolder().sizeOf(0, -16), 8);
        CHECK.sentence("Rule 8", "and not more than the number of words in the base's chain");
        due("16 words in two sectors", sample().sizeOf(0, 16), 0);
        due("17 words in two sectors", sample().sizeOf(0, 17), 8);
        due("8 words in one sector", sample().withoutFolder().link(7).sizeOf(0, 8), 0);
        due("9 words in one sector", sample().withoutFolder().link(7).sizeOf(0, 9), 8);
        due("0 words in no sector", sample().withoutFolder().startOf(0, -2).sizeOf(0, 0), 0);
        due("1 word in no sector", sample().withoutFolder().startOf(0, -2).sizeOf(0, 1), 8);
        for (int size : Far.out(192, 193, 256 + 13, 65536 + 13)) {
            due(size + " words", sample().sizeOf(0, size), 8);
            due(size + " words in no sector", sample().withoutFolder().startOf(0, -2).sizeOf(0, size), 8);
        }
    }

    /** The body is in this one small sector, and the folder is empty. */
    private static SampleFile inSmallSector(int q, int baseSize) {
        SampleFile file = sample().withoutFolder().sizeOf(0, baseSize).startOf(2, q).sizeOf(2, 2);
        return q >= 0 && q < 8 ? file.smallEntry(q, -2) : file;
    }

    private static void howManySmallSectors() {
        CHECK.sentence("Terms: SMALL SECTORS", "there are SIZE / 2 (rounded down)");
        for (int size = 0; size <= 16; size++) {
            for (int q = 0; q < 8; q++) {
                due("small sector " + q + " of " + size + " words", inSmallSector(q, size), q < size / 2 ? 0 : 9);
            }
        }
        due("two small sectors, the second over the size", inSmallSector(0, 3).sizeOf(2, 4)
            .smallEntry(0, 1).smallEntry(1, -2), 9);
        due("two small sectors of four words", inSmallSector(0, 4).sizeOf(2, 4)
            .smallEntry(0, 1).smallEntry(1, -2), 0);
    }

    /** A base of three sectors, with 12 small sectors. */
    private static SampleFile longBase() {
        return sample().link(7, 8, 22).sizeOf(0, 24);
    }

    private static void entriesOfTheSmallTable() {
        CHECK.sentence("Terms: SMALL SECTORS", "its entry q is its word q");
        due("small sector 7 of 8 entries", longBase().startOf(5, 7).smallEntry(7, -2), 0);
        SampleFile two = longBase().link(9, 23).write(8 * 23, -2, -1, -1, -2, -1, -1, -1, -1);
        due("small sector 8 of 16 entries", two.startOf(5, 8), 0);
        due("small sector 11 of 16 entries", two.startOf(5, 11), 0);
        due("small sector 9, whose entry is -1", two.startOf(5, 9), 9);
        SampleFile turned = longBase().link(23, 9).header(6, 23).copySector(9, 23);
        turned.write(8 * 9, -2, -1, -1, -2, -1, -1, -1, -1);
        due("a small table in turned order", turned.startOf(5, 8), 0);
        due("small sector 47 of 48", mostSmallSectors(47), 0);
        CHECK.due("its first word", mostSmallSectors(47).opened().place(1, 0), 8 * 16 + 6);
        due("small sector 48 of 48", mostSmallSectors(48), 9);
        CHECK.sentence("Terms: SMALL SECTORS", "that has an entry in the small table");
        due("small sector 8 of 8 entries", longBase().startOf(5, 8), 9);
        due("small sector 8 of 8 entries, -2 in the sector behind", longBase().startOf(5, 8).write(8 * 10, -2), 9);
        SectorDocument x = two.startOf(5, 8).opened();
        longBase().startOf(5, 8).putInto(x);
        CHECK.due("small sector 8 of 8 entries, after 16", x.open(), 9);
        due("on to small sector 8", longBase().startOf(5, 7).sizeOf(5, 4).smallEntry(7, 8), 9);
        due("small sector 0 without a table", inSmallSector(0, 16).header(6, -2), 9);
        due("no small sector without a table", inSmallSector(0, 16).header(6, -2).startOf(2, -2).sizeOf(2, 0), 0);
    }

    /** A base in sectors 5 .. 16, a small table in 17 .. 22, all of it -2, and a stream at this small sector. */
    private static SampleFile mostSmallSectors(int q) {
        SampleFile file = SampleFile.rootAlone(3, 4).link(5, 6, 7, 8, 9, 10, 11, 12, 13, 14, 15, 16);
        file.link(17, 18, 19, 20, 21, 22).header(6, 17);
        for (int place = 8 * 17; place < 8 * 23; place++) {
            file.write(place, -2);
        }
        file.entry(0, 0, SampleFile.form(5, false, 0, 0, 1), 5, 96);
        return file.entry(1, 'a', SampleFile.form(2, true, 0, 0, 0), q, 2);
    }

    private static void smallChains() {
        CHECK.sentence("Terms: SMALL SECTORS", "each is a small sector (0 too)");
        due("at small sector 0", inSmallSector(0, 13), 0);
        due("at the last small sector", inSmallSector(5, 13), 0);
        for (int q : Far.out(-1, -3, -4, 6, 7, 8, 24, 96, (1 << 30) + 3, Integer.MIN_VALUE + 2)) {
            due("at small sector " + q, sample().startOf(4, q), 9);
            due("on to small sector " + q, sample().smallEntry(2, q), 9);
            due("at last to small sector " + q, sample().smallEntry(0, q), 9);
        }
        CHECK.sentence("Terms: SMALL SECTORS", "sound when empty, or when it comes to an end, no member comes twice");
        due("back to the first", sample().smallEntry(0, 2), 9);
        due("back to the last", sample().smallEntry(0, 0), 9);
        due("the first stays", sample().smallEntry(2, 2), 9);
        due("back to the first, with words for three", sample().smallEntry(0, 2).sizeOf(4, 6), 9);
        due("eight in turn", eightInTurn(), 0);
        due("eight in turn, and back to the first", eightInTurn().smallEntry(6, 7), 9);
        due("eight in turn, and back to the last", eightInTurn().smallEntry(6, 6), 9);
        due("an empty one", sample().startOf(5, -2).sizeOf(5, 0), 0);
        for (int end : new int[] {-1, -3, -4}) {
            due("an end of " + end, sample().smallEntry(4, end), 9);
        }
    }

    /** The body's 15 words are in all eight small sectors: 7, 0, 5, 2, 3, 4, 1, 6. */
    private static SampleFile eightInTurn() {
        SampleFile file = sample().withoutFolder().sizeOf(0, 16).startOf(2, 7).sizeOf(2, 15);
        return file.smallTable(5, 6, 3, 4, 1, 2, -2, 0);
    }

    private static void wordsOfTheBase() {
        CHECK.sentence("Terms: SMALL SECTORS", "Small sector q has the words 2 * q and 2 * q + 1 of the base");
        SectorDocument x = eightInTurn().opened();
        int[] turn = {7, 0, 5, 2, 3, 4, 1, 6};
        for (int i = 0; i < 15; i++) {
            int inBase = 2 * turn[i / 2] + i % 2;
            CHECK.due("place of word " + i, x.place(2, i), SampleFile.inChain(SampleFile.BASE, inBase));
            CHECK.due("word " + i, x.word(2, i), 1000 + inBase);
        }
        CHECK.due("behind the last word", x.place(2, 15), -1);
        SectorDocument turned = sample().link(8, 7).startOf(0, 8).opened();
        CHECK.due("a base in turned order", turned.place(5, 0), 8 * 7);
        CHECK.due("a base in turned order, the other sector", turned.place(4, 0), 8 * 8 + 4);
    }

    private static void sizesOfStreams() {
        CHECK.sentence("Rule 9", "every stream has a SIZE of at least 0");
        due("0 words", sample().sizeOf(5, 0).startOf(5, -2), 0);
        due("-1 words", sample().sizeOf(5, -1).startOf(5, -2), 9);
        for (int size : Far.out(-1, -2, -16, 192, 193, 256 + 22, 65536 + 22)) {
            due("a body of " + size, sample().sizeOf(2, size), 9);
            due("a body of " + size + " without a chain", sample().sizeOf(2, size).startOf(2, -2), 9);
            due("a small stream of " + size, sample().sizeOf(5, size), 9);
        }
    }

    private static void largeOrSmall() {
        CHECK.sentence("Terms: STREAM", "When its SIZE is 16 or more its words are those of the sectors");
        due("16 words in sectors", sample().sizeOf(2, 16).link(10, 12), 0);
        due("16 words in small sectors",
            eightInTurn().smallTable(1, 2, 3, 4, 5, 6, 7, -2).startOf(2, 0).sizeOf(2, 16), 9);
        due("17 words in sectors", sample().sizeOf(2, 17), 0);
        SectorDocument large = sample().sizeOf(2, 16).startOf(2, 21).link(21, 22).opened();
        CHECK.due("place of the first of 16", large.place(2, 0), 8 * 21);
        CHECK.due("place of the last of 16", large.place(2, 15), 8 * 22 + 7);
        CHECK.sentence("Terms: STREAM", "otherwise those of the small sectors of the small chain from its START");
        due("15 words in small sectors", eightInTurn(), 0);
        due("15 words in sectors", sample().sizeOf(2, 15).link(10, 12), 9);
        due("1 word in a small sector", inSmallSector(3, 16).sizeOf(2, 1), 0);
        due("0 words at -2", inSmallSector(3, 16).sizeOf(2, 0).startOf(2, -2), 0);
        SectorDocument small = eightInTurn().opened();
        CHECK.due("place of the first of 15", small.place(2, 0), 8 * 8 + 6);
        CHECK.due("place of the last of 15", small.place(2, 14), 8 * 8 + 4);
        CHECK.sentence("Terms: STREAM", "in order, as many as SIZE says");
        SectorDocument x = sample().opened();
        CHECK.due("the last word of 22", x.place(2, 21), 8 * 11 + 5);
        CHECK.due("behind it, in the same sector", x.place(2, 22), -1);
        CHECK.due("the last word of 3", x.place(4, 2), 8 * 7);
        CHECK.due("behind it, in the same small sector", x.place(4, 3), -1);
    }

    private static void chainsOfStreamsAreSound() {
        CHECK.sentence("Rule 9", "its chain (or small chain) is sound");
        due("a chain that comes back", sample().table(11, 10), 9);
        due("a chain that ends in the table", sample().table(11, 3), 9);
        due("a small chain that comes back", sample().smallEntry(0, 2), 9);
        due("a small chain that ends in -1", sample().smallEntry(0, -1), 9);
        for (int start : Far.out(-1, -3, 0, 24, (1 << 29) + 10)) {
            due("a large stream at " + start, sample().startOf(2, start), 9);
        }
        for (int start : Far.out(-1, -3, 6, 24, (1 << 30) + 2)) {
            due("a small stream at " + start, sample().startOf(4, start), 9);
            due("a stream of no words at " + start, sample().startOf(5, start).sizeOf(5, 0), 9);
        }
    }

    private static void largeChainsAreAsLongAsNeeded() {
        CHECK.sentence("Rule 9", "has exactly as many sectors (small sectors) as its words need");
        int[] chain = {10, 12, 11, 21, 22};
        for (int members = 1; members <= 5; members++) {
            for (int size = 16; size <= 41; size++) {
                SampleFile file = sample().sizeOf(2, size).link(Arrays.copyOf(chain, members));
                due(size + " words in " + members + " sectors", file, (size + 7) / 8 == members ? 0 : 9);
            }
        }
        due("16 words in no sector", sample().sizeOf(2, 16).startOf(2, -2), 9);
    }

    private static void smallChainsAreAsLongAsNeeded() {
        CHECK.sentence("Rule 9", "exactly as many sectors (small sectors) as its words need");
        for (int members = 0; members <= 8; members++) {
            for (int size = 0; size <= 15; size++) {
                SampleFile file = sample().withoutFolder().sizeOf(0, 16).sizeOf(2, size);
                file.smallTable(1, 2, 3, 4, 5, 6, 7, -2).startOf(2, 8 - members);
                if (members == 0) {
                    file.startOf(2, -2);
                }
                due(size + " words in " + members + " small sectors", file, (size + 1) / 2 == members ? 0 : 9);
            }
        }
    }

    private static void whatIsNoStream() {
        CHECK.sentence("Terms: STREAM", "a reached entry of kind 2");
        for (int value : Far.out(-3, -1, 0, 4, 16, 100)) {
            due("a folder at " + value, sample().startOf(3, value), 0);
            due("a folder of " + value, sample().sizeOf(3, value), 0);
            due("what is not reached, at " + value, sample().withoutFolder().startOf(4, value), 0);
            due("what is not reached, of " + value, sample().withoutFolder().sizeOf(4, value), 0);
        }
        due("what is not reached, in the body's sectors",
            sample().withoutFolder().startOf(4, 10).sizeOf(4, 22), 0);
    }

    private static void noSectorTwice() {
        CHECK.sentence("Rule 10", "no sector belongs to two of: the table sectors, the chains of the directory, "
            + "the base, the small table, and the streams of 16 words or more");
        due("directory and base", sample().startOf(0, 6).withoutFolder(), 10);
        due("directory and base, the first of both", SampleFile.rootAlone(1, 4).startOf(0, 4), 10);
        due("directory and small table", sample().withoutFolder().header(6, 5), 10);
        due("directory and stream", sample().link(4, 6, 5, 11), 10);
        due("base and small table", sample().withoutFolder().header(6, 8), 10);
        due("base and small table, the first of both", sample().withoutFolder().startOf(0, 9).sizeOf(0, 8), 10);
        due("base and stream", sample().sizeOf(2, 16).startOf(2, 7), 10);
        due("base and the end of a stream", sample().table(12, 8), 10);
        due("small table and the end of a stream", sample().table(12, 9), 10);
        due("two streams share their end", sample().table(12, 20), 10);
        due("two streams are the same", sample().sizeOf(2, 60).startOf(2, 13), 10);
        due("two streams, one the end of the other", sample().sizeOf(2, 16).startOf(2, 19), 10);
        due("two streams in two folders", inTwoFolders(12), 10);
        due("two streams in two folders, apart", inTwoFolders(22), 0);
        due("nothing shared", sample(), 0);
        due("a base that is empty and one that is not", sample().withoutFolder().startOf(0, -2).sizeOf(0, 0), 0);
    }

    /** Entry 5 of the folder has 16 words in sectors 21 and the one told, the body two sectors, 10 and 12. */
    private static SampleFile inTwoFolders(int second) {
        SampleFile file = sample().sizeOf(2, 16).link(10, 12).startOf(5, 21).sizeOf(5, 16);
        return file.table(21, second).table(second, -2);
    }

    private static void noSmallSectorTwice() {
        CHECK.sentence("Rule 10", "and no small sector to two streams");
        due("the last of one is another", sample().startOf(5, 0), 10);
        due("two streams are the same", sample().startOf(5, 2).sizeOf(5, 3), 10);
        due("they share an end", sample().sizeOf(5, 4).smallEntry(4, 0), 10);
        due("they share small sector 0", inSmallSector(0, 13).formOf(3, SampleFile.form(1, false, 0, 0, 5))
            .formOf(5, SampleFile.form(2, true, 0, 0, 0)).startOf(5, 0), 10);
        due("they are beside one another", inSmallSector(0, 13).formOf(3, SampleFile.form(1, false, 0, 0, 5))
            .formOf(5, SampleFile.form(2, true, 0, 0, 0)).startOf(5, 1).smallEntry(1, -2), 0);
        due("a stream that is not reached", sample().formOf(4, SampleFile.form(2, true, 0, 0, 0)).startOf(5, 0), 0);
        due("a small sector and a sector of one number", sample().startOf(5, 5).smallEntry(5, -2), 0);
        due("two empty streams", sample().startOf(4, -2).sizeOf(4, 0).startOf(5, -2).sizeOf(5, 0), 0);
        due("small sectors of one number as the body's sectors", lowBody(), 0);
    }

    /** The body in sectors 1 and 2, where the small streams have the small sectors 1 and 2. */
    private static SampleFile lowBody() {
        SampleFile file = sample().copySector(1, 21).copySector(2, 22).header(2, 21).header(3, 22);
        file.write(8 * 21 + 1, 2, -2).sizeOf(2, 16).startOf(2, 1);
        file.table(21, -3).table(22, -3);
        return file.smallEntry(2, 1).smallEntry(1, -2).smallEntry(0, -1);
    }
}
