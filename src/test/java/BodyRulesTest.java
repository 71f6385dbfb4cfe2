/** Promise 10, rules 11 to 13, and the term DOCUMENT. */
final class BodyRulesTest {
    private static final Checker CHECK = new Checker();

    public static void main(String[] args) {
        theFileIsOpen();
        thereIsABody();
        theBodyHasTwelveWords();
        theFirstWord();
        bitOne();
        thereAreNotes();
        eachLength();
        allLengths();
        wordsNotLookedAt();
        CHECK.finish();
    }

    private static SampleFile sample() {
        return new SampleFile();
    }

    private static void due(String what, SampleFile file, int rule) {
        SectorDocument x = file.opened();
        CHECK.due(what, x.load(), rule);
        CHECK.due(what + ": is loaded", x.length(3) != SectorDocument.NONE, rule == 0);
        CHECK.due(what + ": stays open", x.entries() != SectorDocument.NONE, true);
    }

    private static void theFileIsOpen() {
        CHECK.sentence("Rule 11", "the file is open");
        SectorDocument x = sample().closed();
        CHECK.due("load before open", x.load(), 11);
        CHECK.due("open", x.open(), 0);
        CHECK.due("load after open", x.load(), 0);
        x.put(47, 0, 0, 0, 0);
        CHECK.due("load after put", x.load(), 11);
        CHECK.due("a new object", new SectorDocument().load(), 11);
        SectorDocument refused = sample().header(0, 0).closed();
        CHECK.due("open of a broken file", refused.open(), 1);
        CHECK.due("load of a broken file", refused.load(), 11);
        SectorDocument shared = sample().startOf(5, 0).closed();
        CHECK.due("open of a file that breaks the last rule", shared.open(), 10);
        CHECK.due("load of it", shared.load(), 11);
    }

    private static void thereIsABody() {
        CHECK.sentence("Terms: DOCUMENT", "the BODY, whose name is equal to 0x444F43");
        due("a body with small letters", sample().nameOf(2, SampleFile.name("doc")), 0);
        due("a body with some small letters", sample().nameOf(2, SampleFile.name("DoC")), 0);
        due("a body with a letter more", sample().nameOf(2, SampleFile.name("DOCS")), 11);
        due("a body with a letter before", sample().nameOf(2, SampleFile.name("DDOC")), 11);
        CHECK.sentence("Rule 11", "there is a body");
        due("no body", sample().nameOf(2, SampleFile.name("DOD")), 11);
        due("a root alone", SampleFile.rootAlone(3, 4), 11);
        CHECK.sentence("Terms: DOCUMENT", "two streams among the contents of entry 0");
        due("a body that is a folder", sample().formOf(2, SampleFile.form(1, false, 0, 0, 0)), 11);
        due("a body in a folder", sample().nameOf(2, SampleFile.name("DOD")).nameOf(5, SampleFile.DOC), 11);
        due("another in a folder", sample().nameOf(5, SampleFile.DOC), 0);
        due("notes that are a folder", sample().formOf(1, SampleFile.form(1, true, 3, 2, 0)), 13);
        due("notes in a folder", sample().nameOf(1, SampleFile.name("T2")).nameOf(4, SampleFile.T0), 13);
        due("other notes in a folder", sample().nameOf(4, SampleFile.T0), 0);
    }

    /** The body's words in the base, the folder empty. */
    private static SampleFile smallBody(int size) {
        SampleFile file = sample().withoutFolder().sizeOf(0, 16);
        for (int i = 0; i < size; i++) {
            file.base(i, file.words[SampleFile.inChain(SampleFile.BODY, i)]);
        }
        file.notes(8, SampleFile.NARROW, 0);
        return file.smallTable(1, 2, 3, 4, 5, 6, 7, -2).startOf(2, 0).sizeOf(2, size)
            .smallEntry((size - 1) / 2, -2);
    }

    private static void theBodyHasTwelveWords() {
        CHECK.sentence("Rule 11", "it has at least 12 words");
        for (int size = 1; size <= 15; size++) {
            due(size + " words", smallBody(size), size >= 12 ? 0 : 11);
        }
        due("no words", sample().sizeOf(2, 0).startOf(2, -2), 11);
        due("16 words", sample().link(10, 12).sizeOf(2, 16).notes(8, SampleFile.NARROW, 0), 0);
    }

    private static void theFirstWord() {
        CHECK.sentence("Rule 11", "its word 0 is 0xA5EC");
        for (int bit = 0; bit < 32; bit++) {
            due("bit " + bit + " turned", sample().body(0, 0xA5EC ^ 1 << bit), 11);
        }
        for (int word : Far.out(0, -1, 0xA5EB, 0xA5ED, 0xECA5, 0xA5EC0000, (short) 0xA5EC)) {
            due("first word " + word, sample().body(0, word), 11);
        }
        due("this word", sample().body(0, 0xA5EC), 0);
    }

    private static void bitOne() {
        CHECK.sentence("Rule 12", "bit 1 of its word 1 is not set");
        for (int bit = 0; bit < 32; bit++) {
            due("bit " + bit + " of word 1", sample().body(1, 1 << bit), bit == 0 ? 13 : bit == 1 ? 12 : 0);
        }
        due("all bits set", sample().body(1, -1), 12);
        due("all but bit 0", sample().body(1, -2), 12);
        due("all but bit 1", sample().body(1, -3).nameOf(1, SampleFile.T1), 0);
        due("all but bits 0 and 1", sample().body(1, -4), 0);
        due("bits 0 and 1", sample().body(1, 3).nameOf(1, SampleFile.T1), 12);
    }

    private static void thereAreNotes() {
        CHECK.sentence("Terms: DOCUMENT",
            "the NOTES, whose name is equal to 0x5430, or 0x5431 when bit 0 of word 1 of the body is set");
        due("bit 0 is set, and T1", sample().body(1, 1).nameOf(1, SampleFile.T1), 0);
        due("bit 0 is set, and t1", sample().body(1, 1).nameOf(1, SampleFile.name("t1")), 0);
        due("bit 0 is set, and T0", sample().body(1, 1), 13);
        due("bit 0 is not set, and T1", sample().nameOf(1, SampleFile.T1), 13);
        due("bit 0 is not set, and t0", sample().nameOf(1, SampleFile.name("t0")), 0);
        due("bit 0 of a word that is less than 0", sample().body(1, -3), 13);
        CHECK.sentence("Rule 13", "there are notes");
        due("no notes", sample().nameOf(1, SampleFile.name("T2")), 13);
        due("notes without words", sample().sizeOf(1, 0).startOf(1, -2), 14);
        CHECK.due("both notes, T0 is meant", bothNotes(0).loaded().length(3), 10);
        due("both notes, T1 is meant", bothNotes(1), 14);
    }

    /** T0 are the notes of the sample; T1, in the place of the folder, is a stream without words. */
    private static SampleFile bothNotes(int bit) {
        SampleFile file = sample().body(1, bit).formOf(0, SampleFile.form(5, false, 0, 0, 3));
        file.entry(3, SampleFile.T1, SampleFile.form(2, true, 1, 2, 0), -2, 0);
        return file.formOf(1, SampleFile.form(2, false, 0, 0, 0));
    }

    private static void eachLength() {
        CHECK.sentence("Rule 13", "the three lengths are 0 .. 400 each");
        for (int part = 0; part < 3; part++) {
            for (int length : Far.out(-1, -2, -400, 401, 402, 256 + 401, 65536 + 5)) {
                due("part " + part + " of " + length, sample().body(2, 0, 0, 0).body(2 + part, length), 13);
                due("part " + part + " of " + length + " beside others", sample().body(2 + part, length), 13);
            }
            due("part " + part + " of 400", LongText.of(0, 0, 0).body(2 + part, 400), 0);
            due("part " + part + " of 10", sample().body(2, 0, 0, 0).body(2 + part, 10), 0);
        }
        due("-1 and 11", sample().body(2, -1, 11, 0), 13);
        due("11 and -1", sample().body(2, 11, -1, 0), 13);
        due("11 and -1 at last", sample().body(2, 11, 0, -1), 13);
        due("401 and -1", LongText.of(401, -1, 0), 13);
    }

    private static void allLengths() {
        CHECK.sentence("Rule 13", "400 or less together");
        due("400 in all", LongText.of(200, 100, 100), 0);
        due("400 in one", LongText.of(0, 400, 0), 0);
        due("401 in all", LongText.of(200, 100, 101), 13);
        due("400 and 1", LongText.of(400, 0, 1), 13);
        due("1 and 400", LongText.of(1, 400, 0), 13);
        due("three of 400", LongText.of(400, 400, 400), 13);
        due("399 in all, and limits for 400", LongText.of(399, 0, 0), 15);
        due("a sum that comes round to 2", sample().body(2, 1431655766, 1431655766, 1431655766), 13);
        due("a sum that comes round to 0", sample().body(2, 1 << 30, 1 << 30, Integer.MIN_VALUE), 13);
        due("a sum that comes round to 10", sample().body(2, Integer.MAX_VALUE, Integer.MAX_VALUE, 12), 13);
        due("no positions", sample().body(2, 0, 0, 0), 15);
    }

    private static void wordsNotLookedAt() {
        CHECK.sentence("Terms: DOCUMENT", "Words 5 .. 10 of the body tell where things are in the notes");
        for (int value : Far.out(-1, 0)) {
            due("word 11 is " + value, sample().body(11, value), 0);
        }
    }
}
