/** The sentences of the terms that only say where things stand: each is moved, and is found there. */
final class TermsTest {
    private static final long NO_WORD = SectorDocument.NO_WORD;
    private static final int[] FREE = {21, 22, 23};
    private static final Checker CHECK = new Checker();

    public static void main(String[] args) {
        sectors();
        states();
        tableSectors();
        directoryAndSmallTable();
        members();
        directoryWords();
        entries();
        forms();
        reached();
        contents();
        letters();
        base();
        smallTable();
        smallChains();
        lengths();
        placesInTheNotes();
        modifiers();
        looks();
        styles();
        paragraphs();
        runs();
        CHECK.finish();
    }

    private static SampleFile sample() {
        return new SampleFile();
    }

    private static SampleFile without(SampleFile file, int sector) {
        return file.write(8 * sector, -7, -7, -7, -7, -7, -7, -7, -7);
    }

    private static void duePlaces(String what, SectorDocument x, int k, int... places) {
        for (int i = 0; i < places.length; i++) {
            CHECK.due(what + ": place(" + k + ", " + i + ")", x.place(k, i), places[i]);
        }
    }

    private static void sectors() {
        CHECK.sentence("Terms: FILE", "SECTOR s (0 .. N - 1) has the words 8 * s .. 8 * s + 7");
        for (int last = 20; last <= 23; last++) {
            SectorDocument x = sample().link(13, last).startOf(1, 13).sizeOf(1, 16).sectors(last + 1).opened();
            for (int i = 0; i < 8; i++) {
                CHECK.due("word " + (8 + i) + " in sector " + last, x.place(1, 8 + i), 8 * last + i);
            }
        }
    }

    private static void states() {
        CHECK.sentence("Terms: FILE", "The file is CLOSED or OPEN, and when open LOADED or not");
        SectorDocument x = sample().closed();
        CHECK.dueClosed("closed", x);
        CHECK.due("a document of a closed file", x.load(), 11);
        CHECK.dueClosed("still closed", x);
        CHECK.due("open", x.open(), 0);
        CHECK.due("entries when open", x.entries(), 6);
        CHECK.dueNotLoaded("open", x);
        CHECK.due("load", x.load(), 0);
        CHECK.due("entries when loaded", x.entries(), 6);
        CHECK.due("length when loaded", x.length(3), 10);
        CHECK.due("open again", x.open(), 0);
        CHECK.dueNotLoaded("open again", x);
    }

    private static void tableSectors() {
        CHECK.sentence("Terms: HEADER", "word 1 is F, words 2 .. 1 + F name the TABLE SECTORS");
        for (int i = 0; i < 3; i++) {
            SampleFile file = sample().table(1 + i, -1).table(21, -3).copySector(1 + i, 21).header(2 + i, 21);
            CHECK.due("table sector " + i + " is 21", without(file, 1 + i).openAnswer(), 0);
            CHECK.due("it is not", without(file.header(2 + i, 1 + i), 21).openAnswer(), 2);
        }
        CHECK.due("another second table sector", SampleFile.rootAlone(2, 8).header(3, 3).openAnswer(), 3);
        CHECK.due("a root that the second table sector tells", SampleFile.rootAlone(2, 8).openAnswer(), 0);
        CHECK.due("no second table sector", SampleFile.rootAlone(1, 8).openAnswer(), 3);
    }

    private static void directoryAndSmallTable() {
        CHECK.sentence("Terms: HEADER", "word 5 is where the directory begins, "
            + "word 6 where the small table begins");
        SampleFile directory = sample().copySector(4, 21).link(21, 6, 5).header(5, 21);
        CHECK.due("the entries of a directory from 21 on", without(directory, 4).opened().entries(), 6);
        SampleFile small = sample().copySector(9, 22).link(22).header(6, 22);
        duePlaces("a small table from 22 on", without(small, 9).opened(), 4, 60, 61, 56);
        CHECK.due("a small table from 22 on that is not there", sample().link(22).header(6, 22).openAnswer(), 9);
    }

    private static void members() {
        CHECK.sentence("Terms: TABLE", "otherwise its members are s, the table's entry s, the entry of that, "
            + "and so on");
        for (int a : FREE) {
            for (int b : FREE) {
                int c = 21 + 22 + 23 - a - b;
                if (a != b) {
                    SectorDocument x = sample().startOf(2, a).link(a, b, c).opened();
                    duePlaces("a chain of " + a + ", " + b + ", " + c, x, 2, 8 * a, 8 * a + 1);
                    CHECK.due("word 8", x.place(2, 8), 8 * b);
                    CHECK.due("word 15", x.place(2, 15), 8 * b + 7);
                    CHECK.due("word 16", x.place(2, 16), 8 * c);
                    CHECK.due("word 21", x.place(2, 21), 8 * c + 5);
                }
            }
        }
    }

    private static void directoryWords() {
        CHECK.sentence("Terms: DIRECTORY", "the words of the sectors of the chain that header word 5 begins, "
            + "in the order of the chain");
        SampleFile file = sample().copySector(4, 23).copySector(6, 21).copySector(5, 22);
        SectorDocument x = file.link(23, 21, 22).header(5, 23).opened();
        int[] names = {0, SampleFile.T0, SampleFile.DOC, 'b', SampleFile.name("xy"), SampleFile.name("abc")};
        for (int k = 0; k < names.length; k++) {
            CHECK.due("the name of " + k, x.entry(k, 0), names[k]);
        }
        CHECK.due("its sectors in another order", file.link(23, 22, 21).openAnswer() != 0, true);
    }

    private static void entries() {
        CHECK.sentence("Terms: DIRECTORY", "ENTRY k has the words 4 * k .. 4 * k + 3 of these: "
            + "NAME, FORM, START, SIZE; E is the number of entries");
        for (int k = 4; k <= 5; k++) {
            SectorDocument x = sample().directory(4 * k, SampleFile.name(k == 4 ? "XZ" : "zzzz"))
                .directory(4 * k + 2, 5).directory(4 * k + 3, 1).smallEntry(5, -2).opened();
            CHECK.due("NAME of " + k, x.entry(k, 0), SampleFile.name(k == 4 ? "XZ" : "zzzz"));
            CHECK.due("kind in FORM of " + k, x.entry(k, 1), 2);
            CHECK.due("START of " + k, x.place(k, 0), 8 * 8 + 2);
            CHECK.due("SIZE of " + k, x.entry(k, 3), 1);
        }
        SampleFile file = sample().formOf(3, SampleFile.form(1, false, 0, 0, 5))
            .formOf(5, SampleFile.form(2, true, 0, 0, 0));
        CHECK.due("a link E - 1", file.openAnswer(), 0);
        CHECK.due("a link E", file.formOf(3, SampleFile.form(1, false, 0, 0, 6)).openAnswer(), 4);
    }

    /** A root, in it "b" with LEFT "a" and RIGHT "c", and "x" in a folder "b" of this FORM. */
    private static SampleFile family(int form) {
        SampleFile file = sample().entry(0, 0, 0x01000005, -2, 0).header(6, -2).entry(1, 'b', form, -2, 0);
        return file.entry(2, 'a', 0x00000002, -2, 0).entry(3, 'c', 0x00000002, -2, 0)
            .entry(4, 'x', 0x00000012, -2, 0);
    }

    private static void forms() {
        CHECK.sentence("Terms: DIRECTORY", "In FORM the bits 0 .. 3 are the KIND (1 folder, 2 stream, 5 root), "
            + "bit 4 is set when the entry is BLACK (else it is RED), bits 8 .. 15 are LEFT, 16 .. 23 RIGHT, "
            + "24 .. 31 CHILD");
        SectorDocument x = family(0x04030211).opened();
        long[] kinds = {5, 1, 2, 2, 2, NO_WORD};
        long[] owners = {-1, 0, 0, 0, 1, NO_WORD};
        for (int k = 0; k < kinds.length; k++) {
            CHECK.due("the kind of " + k, x.entry(k, 1), kinds[k]);
            CHECK.due("the owner of " + k, x.entry(k, 2), owners[k]);
        }
        CHECK.due("LEFT for RIGHT", family(0x04020311).openAnswer(), 6);
        CHECK.due("a red one", family(0x04030201).openAnswer(), 7);
        CHECK.due("a stream with a CHILD", family(0x04030212).openAnswer(), 5);
        CHECK.due("a root in a root", family(0x04030215).openAnswer(), 5);
        CHECK.due("LEFT as CHILD", family(0x02030211).openAnswer(), 4);
        CHECK.due("neither LEFT nor RIGHT nor CHILD", family(0x00000011).opened().entries(), 2);
        CHECK.due("a stream with none", family(0x00000012).opened().entries(), 2);
    }

    private static void reached() {
        CHECK.sentence("Terms: DIRECTORY", "entry 0 is reached, and every entry that a link names");
        int[][] formsAndReached = {
            {0x04030211, 0b11111}, {0x00030211, 0b01111}, {0x04000011, 0b10011}, {0x04000211, 0b10111},
            {0x00030011, 0b01011}, {0x00000011, 0b00011}
        };
        for (int[] one : formsAndReached) {
            SectorDocument x = family(one[0]).opened();
            CHECK.due("how many are reached", x.entries(), Integer.bitCount(one[1]));
            for (int k = 0; k < 6; k++) {
                CHECK.due(k + " is reached", x.entry(k, 0) != NO_WORD, (one[1] >> k & 1) == 1);
            }
        }
    }

    private static void contents() {
        CHECK.sentence("Terms: DIRECTORY", "The TREE of an entry's CHILD has that entry and all that LEFT and "
            + "RIGHT lead to from there; they are the CONTENTS of the entry whose CHILD it is");
        SectorDocument x = new TreeFile(1).folder(1, SampleFile.name("bb"), true, 2, 3, 6)
            .folder(2, 'a', true, 0, 4, 7).stream(3, SampleFile.name("ee"), true, 5, 0)
            .stream(4, SampleFile.name("aa"), false, 0, 0)
            .stream(5, SampleFile.name("cc"), false, 0, 0).stream(6, 'q', true, 8, 9)
            .stream(7, 'r', true, 0, 0).stream(8, 'p', false, 0, 0).stream(9, 's', false, 0, 0).file().opened();
        int[] owners = {-1, 0, 0, 0, 0, 0, 1, 2, 1, 1};
        int[] ranks = {0, 2, 0, 4, 1, 3, 1, 0, 0, 2};
        for (int k = 0; k < owners.length; k++) {
            CHECK.due("whose contents " + k + " belongs to", x.entry(k, 2), owners[k]);
            CHECK.due("the place of " + k, x.entry(k, 4), ranks[k]);
        }
        CHECK.due("find in 1", x.find(1, 's'), 9);
        CHECK.due("find in 2", x.find(2, 's'), -1);
        CHECK.due("find in 0", x.find(0, 's'), -1);
    }

    private static void letters() {
        CHECK.sentence("Terms: LETTERS", "are its four bytes, the highest first");
        String[][] pairs = {{"AB", "BA"}, {"azz", "baa"}, {"aazz", "abaa"}, {"abcd", "abdc"}, {"!~", "~!"}};
        for (String[] pair : pairs) {
            int low = SampleFile.name(pair[0]);
            int high = SampleFile.name(pair[1]);
            TreeFile right = new TreeFile(1).stream(1, low, true, 0, 2).stream(2, high, false, 0, 0);
            CHECK.due(pair[0] + " before " + pair[1], right.file().openAnswer(), 0);
            TreeFile left = new TreeFile(1).stream(1, low, true, 2, 0).stream(2, high, false, 0, 0);
            CHECK.due(pair[0] + " behind " + pair[1], left.file().openAnswer(), 6);
        }
    }

    private static void base() {
        CHECK.sentence("Terms: SMALL SECTORS", "entry 0's START begins the chain of the BASE, its SIZE is the "
            + "number of words of the base: those of the chain's sectors, in order, as many as SIZE says");
        SectorDocument x = sample().startOf(0, 22).link(22, 21).opened();
        duePlaces("a base of 22 and 21", x, 4, 8 * 22 + 4, 8 * 22 + 5, 8 * 22);
        duePlaces("a base of 22 and 21", x, 5, 8 * 21, 8 * 21 + 1);
        CHECK.due("a SIZE of 10", sample().sizeOf(0, 10).openAnswer(), 0);
        CHECK.due("a SIZE of 9", sample().sizeOf(0, 9).openAnswer(), 9);
    }

    private static void smallTable() {
        CHECK.sentence("Terms: SMALL SECTORS", "The SMALL TABLE has the words of the chain that header word 6 "
            + "begins, in order");
        SampleFile file = sample().link(7, 8, 21).sizeOf(0, 24).copySector(9, 22).header(6, 22).link(22, 9);
        file.write(8 * 9, -1, -2, 1, -1, -1, -1, -1, -1).startOf(5, 9);
        duePlaces("small sector 9, whose entry is in the second sector", file.opened(), 5, 8 * 21 + 2, 8 * 21 + 3);
        duePlaces("small sectors 2 and 0", file.opened(), 4, 60, 61, 56);
        CHECK.due("the sectors the other way round", file.header(6, 9).link(9, 22).openAnswer(), 9);
    }

    private static void smallChains() {
        CHECK.sentence("Terms: SMALL SECTORS", "A SMALL CHAIN is what a chain is, with small sectors for sectors "
            + "and the small table for the table");
        SectorDocument x = sample().startOf(4, 5).sizeOf(4, 6).smallTable(-1, 3, -1, -2, -2, 1, -1, -1).opened();
        duePlaces("small sectors 5, 1 and 3", x, 4, 8 * 8 + 2, 8 * 8 + 3, 58, 59, 62, 63);
    }

    private static void lengths() {
        CHECK.sentence("Terms: DOCUMENT", "Words 2, 3, 4 of the body are the LENGTHS of the three PARTS of the "
            + "text; L is their sum");
        int[][] lengths = {{10, 0, 0}, {0, 10, 0}, {0, 0, 10}, {1, 2, 7}, {7, 2, 1}, {0, 4, 6}};
        for (int[] three : lengths) {
            SectorDocument x = sample().body(2, three).loaded();
            for (int part = 0; part < 3; part++) {
                CHECK.due("the length of part " + part, x.length(part), three[part]);
            }
            CHECK.due("L", x.length(3), 10);
        }
    }

    private static void placesInTheNotes() {
        CHECK.sentence("Terms: DOCUMENT", "tell where things are in the notes (as places of words, counted "
            + "from 0). \"Exist\" is said of words of the notes");
        int run = SampleFile.RUNS + 3;
        for (int last = 59; last <= 62; last++) {
            SampleFile file = sample().sizeOf(1, last + 1).notes(last, 0, 0).notes(run, last);
            CHECK.due("a group at the last word, " + last, file.loadAnswer(), 0);
            CHECK.due("and behind it", file.notes(run, last + 1).loadAnswer(), 19);
        }
        CHECK.due("a group at 0", sample().notes(run, 0).loadAnswer(), 0);
        CHECK.due("a group at -2", sample().notes(run, -2).loadAnswer(), 19);
    }

    /** The sample with these modifiers in the group of its run, and none in its piece. */
    private static SectorDocument withRun(int... modifiers) {
        return sample().notes(10, 0, 0).notes(SampleFile.GROUPS + 9, modifiers.length)
            .notes(SampleFile.GROUPS + 10, modifiers).loaded();
    }

    private static void modifiers() {
        CHECK.sentence("Terms: GROUP", "It is read as MODIFIERS: a word w, its NUMBER the bits 0 .. 4");
        int set = SampleFile.modifier(2, 0, 50);
        int add = SampleFile.modifier(3, 0, 1);
        CHECK.due("two modifiers", withRun(set, add).look(0, 1), 51);
        CHECK.due("the other way round", withRun(add, set).look(0, 1), 50);
        CHECK.due("one of them twice", withRun(add, add).look(0, 1), 32);
        CHECK.due("none", withRun().look(0, 1), 30);
    }

    private static void looks() {
        CHECK.sentence("Terms: LOOK", "BOLD (0 or 1), WIDTH (1 .. 200), TONE (any int)");
        for (int operand : Far.out(-201, -200, -29, -1, 0, 1, 2, 128, 129, 130, 170, 200, 201)) {
            for (int number = 0; number < 32; number++) {
                SectorDocument x = withRun(SampleFile.modifier(number, 1, operand), operand);
                long bold = x.look(0, 0);
                long width = x.look(0, 1);
                CHECK.due("BOLD is 0 or 1", bold == 0 || bold == 1, true);
                CHECK.due("WIDTH is 1 .. 200", width >= 1 && width <= 200, true);
                CHECK.due("TONE", x.look(0, 2), number == 5 ? operand : 777);
            }
        }
    }

    private static void styles() {
        CHECK.sentence("Terms: STYLES", "its PARENT (-1 for none), and x + 2 * s + 1, the place of its group "
            + "(-1 for none)");
        SectorDocument x = sample().loaded();
        long[][] due = {{0, 30, 777}, {1, 25, 777}, {1, 25, 777}};
        for (int s = 0; s < due.length; s++) {
            for (int which = 0; which < 3; which++) {
                CHECK.due("style(" + s + ", " + which + ")", x.style(s, which), due[s][which]);
            }
        }
        SectorDocument y = sample().notes(SampleFile.STYLES, 2, -1, -1, SampleFile.GROUPS + 4, 1, -1).loaded();
        for (int s = 0; s < 3; s++) {
            CHECK.due("BOLD of style " + s, y.style(s, 0), 1);
            CHECK.due("WIDTH of style " + s, y.style(s, 1), 15);
            CHECK.due("TONE of style " + s, y.style(s, 2), 0);
        }
    }

    private static void paragraphs() {
        CHECK.sentence("Terms: PARAGRAPHS", "a style, and the place of a group (-1 for none). RUNS");
        SampleFile file = sample().notes(SampleFile.RUNS + 3, -1).notes(10, 0, 0);
        SectorDocument x = file.loaded();
        CHECK.due("style 0 and no group", x.look(0, 1), 30);
        CHECK.due("style 2 and a group", x.look(4, 1), 35);
        SectorDocument y = file.notes(SampleFile.PARAGRAPHS + 4, 1, 0, SampleFile.GROUPS + 7, -1).loaded();
        CHECK.due("style 1 and a group", y.look(3, 1), 35);
        CHECK.due("style 0 and none", y.look(4, 1), 30);
    }

    private static void runs() {
        CHECK.sentence("Terms: PARAGRAPHS", "word 10 tells: the place of a group (-1 for none)");
        SampleFile file = sample().notes(10, 0, 0).notes(SampleFile.RUNS, 2, 0, 2, 10, SampleFile.GROUPS + 7, -1);
        SectorDocument x = file.loaded();
        CHECK.due("a group", x.look(1, 1), 40);
        CHECK.due("none", x.look(2, 1), 30);
        SectorDocument y = file.notes(SampleFile.RUNS + 4, -1, SampleFile.GROUPS + 7).loaded();
        CHECK.due("none before a group", y.look(1, 1), 30);
        CHECK.due("a group behind none", y.look(2, 1), 40);
    }
}
