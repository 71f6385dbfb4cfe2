/** Promise 10: each of the rules 11 to 20. */
final class LoadRulesTest {
    private static final int G = SampleFile.GROUPS;
    private static final int P = SampleFile.PARAGRAPHS;
    private static final int R = SampleFile.RUNS;
    private static final int S = SampleFile.STYLES;
    private static final int FREE = SampleFile.GROUPS + 11;
    private static final Checker CHECK = new Checker();

    public static void main(String[] args) {
        due("the sample", sample(), 0);
        rule11();
        rule12();
        rule13();
        rule14();
        rule15();
        rule16();
        rule17();
        rule18();
        rule19();
        rule20();
        theFirstBrokenRuleIsTold();
        loadForgets();
        CHECK.finish();
    }

    private static SampleFile sample() {
        return new SampleFile();
    }

    private static void due(String what, SampleFile file, int rule) {
        SectorDocument x = file.opened();
        CHECK.due(what, x.load(), rule);
        CHECK.due(what + ": is loaded", x.length(3) != -1, rule == 0);
        CHECK.due(what + ": stays open", x.entries() != -1, true);
    }

    private static void rule11() {
        CHECK.due("load of a closed file", sample().closed().load(), 11);
        due("no body", sample().nameOf(2, SampleFile.name("DOD")), 11);
        due("a body with small letters", sample().nameOf(2, SampleFile.name("doc")), 0);
        due("a body that is a folder", sample().formOf(2, SampleFile.form(1, false, 0, 0, 0)), 11);
        due("a body in a folder", sample().nameOf(2, SampleFile.name("DOD")).nameOf(5, SampleFile.DOC), 11);
        due("another first word", sample().body(0, 0xA5ED), 11);
        due("more bits in the first word", sample().body(0, 0x1A5EC), 11);
        due("11 words", smallBody(11), 11);
        due("12 words, and no text in it", smallBody(12), 16);
        due("12 words, and the text in them", smallBody(12).notes(8, SampleFile.NARROW, 0), 0);
        due("a body without words", sample().sizeOf(2, 0).startOf(2, -2), 11);
    }

    /** The body's words in the base, the folder empty. */
    private static SampleFile smallBody(int size) {
        SampleFile file = sample();
        file.sizeOf(0, 16).formOf(3, SampleFile.form(1, false, 0, 0, 0));
        for (int i = 0; i < size; i++) {
            file.base(i, file.words[SampleFile.inChain(SampleFile.BODY, i)]);
        }
        file.smallTable(1, 2, 3, 4, 5, -2, -1, -1);
        return file.startOf(2, 0).sizeOf(2, size);
    }

    private static void rule12() {
        due("bit 1 set", sample().body(1, 2), 12);
        due("bits 0 and 1 set", sample().body(1, 3), 12);
        due("all bits set", sample().body(1, -1), 12);
        due("other bits set", sample().body(1, -4), 0);
    }

    private static void rule13() {
        due("no notes T1", sample().body(1, 1), 13);
        due("notes T1", sample().body(1, 1).nameOf(1, SampleFile.T1), 0);
        due("no notes T0", sample().nameOf(1, SampleFile.T1), 13);
        due("notes with small letters", sample().nameOf(1, SampleFile.name("t0")), 0);
        due("notes that are a folder", sample().formOf(1, SampleFile.form(1, true, 3, 2, 0)), 13);
        due("a length below 0", sample().body(2, 11, -1, 0), 13);
        due("a first length of 401", sample().body(2, 401, 0, 0), 13);
        due("a last length of -1", sample().body(4, -1), 13);
        due("400 in all", sample().body(2, 200, 100, 100), 15);
        due("401 in all", sample().body(2, 200, 100, 101), 13);
        due("a sum that comes round", sample().body(2, 1 << 30, 1 << 30, Integer.MIN_VALUE), 13);
        due("a huge length", sample().body(2, Integer.MAX_VALUE), 13);
    }

    private static void rule14() {
        due("a place below 0", sample().body(5, -1), 14);
        due("a huge place", sample().body(5, Integer.MAX_VALUE), 14);
        due("a length below 0", sample().body(6, -1), 14);
        due("a length of 0", sample().body(6, 0), 14);
        due("a huge length", sample().body(6, Integer.MAX_VALUE), 14);
        due("a word too few", sample().body(6, 11), 14);
        due("a word too many", sample().body(6, 13), 14);
        due("a first word 0", sample().notes(0, 0), 14);
        due("a first word 3", sample().notes(0, 3), 14);
        due("no group block", sample().body(5, 3, 9).notes(10, 0, 0), 0);
        due("a group below 0", sample().notes(1, -1), 14);
        due("an empty group and what is no block", sample().notes(1, 0), 14);
        due("a group behind the end", sample().notes(1, 100), 14);
        due("a huge group", sample().notes(1, Integer.MAX_VALUE), 14);
        due("a group up to the end", sample().notes(1, 10), 14);
        due("no bands", sample().notes(4, 0), 14);
        due("13 bands", sample().notes(4, 13), 14);
        due("fewer bands than words", sample().notes(4, 1), 14);
        due("a huge number of bands", sample().notes(4, Integer.MAX_VALUE), 14);
        due("12 bands", manyPieces(12), 0);
        due("13 bands with all words", manyPieces(13), 14);
        due("12 group blocks", manyBlocks(12), 0);
        due("13 group blocks", manyBlocks(13), 14);
        due("at the end of the notes", piecesAtTheEnd(48), 0);
        due("over the end of the notes", piecesAtTheEnd(49), 14);
    }

    private static SampleFile manyPieces(int n) {
        SampleFile file = sample();
        file.body(2, n, 0, 0).body(5, 0, 3 + 3 * n).body(7, 40, 1, 42, 48);
        file.notes(0, 2, n);
        for (int i = 0; i <= n; i++) {
            file.notes(2 + i, i);
        }
        for (int i = 0; i < n; i++) {
            file.notes(3 + n + i, SampleFile.NARROW);
            file.notes(3 + 2 * n + i, 0);
        }
        return file.notes(40, -1, -1, 1, 0, n, 0, -1, 0, 1, 0, n, -1);
    }

    private static SampleFile manyBlocks(int blocks) {
        SampleFile file = sample().body(5, 0, 2 * blocks + 6).body(7, 40, 1, 42, 48);
        for (int i = 0; i < blocks; i++) {
            file.notes(2 * i, 1, 0);
        }
        file.notes(2 * blocks, 2, 1, 0, 10, SampleFile.NARROW, blocks);
        return file.notes(40, -1, -1, 1, 0, 10, 0, -1, 0, 1, 0, 10, -1);
    }

    private static SampleFile piecesAtTheEnd(int at) {
        SampleFile file = sample().body(5, at, 12);
        for (int i = 0; i < 12; i++) {
            file.notes(at + i, file.words[SampleFile.inChain(SampleFile.NOTES, i)]);
        }
        return file;
    }

    private static void rule15() {
        due("a first limit of 1", sample().notes(5, 1), 15);
        due("a first limit of -1", sample().notes(5, -1), 15);
        due("a last limit under L", sample().notes(7, 9), 15);
        due("a last limit over L", sample().notes(7, 11), 15);
        due("a limit twice", sample().notes(6, 0), 15);
        due("a limit as the last", sample().notes(6, 10), 15);
        due("a limit over the last", sample().notes(6, 11), 15);
        due("no positions", sample().body(2, 0, 0, 0).notes(7, 0), 15);
        due("no positions, one band", sample().body(2, 0, 0, 0).body(5, 3, 6)
            .notes(3, 2, 1, 0, 0, SampleFile.NARROW, 0), 15);
    }

    private static void rule16() {
        due("a descriptor below 0", sample().notes(8, -1), 16);
        due("a narrow descriptor below 0", sample().notes(8, SampleFile.NARROW | Integer.MIN_VALUE), 16);
        due("narrow up to the end", sample().notes(8, SampleFile.NARROW + 2 * 82), 0);
        due("narrow up to the end, odd", sample().notes(8, SampleFile.NARROW + 2 * 82 + 1), 0);
        due("narrow over the end", sample().notes(8, SampleFile.NARROW + 2 * 83), 16);
        due("wide up to the end", sample().notes(9, 80), 0);
        due("wide over the end by half", sample().notes(9, 81), 16);
        due("a huge wide descriptor", sample().notes(9, SampleFile.NARROW - 1), 16);
        due("a huge narrow descriptor", sample().notes(9, Integer.MAX_VALUE), 16);
        due("a block behind the last", sample().notes(11, 2), 16);
        due("a block below 0", sample().notes(10, -1), 16);
        due("a huge block", sample().notes(10, Integer.MAX_VALUE), 16);
    }

    private static void rule17() {
        due("no styles", sample().body(8, 0), 17);
        due("11 styles", tenStyles().notes(S + 20, -1, -1).body(8, 11), 17);
        due("10 styles", tenStyles(), 0);
        due("10 styles in a circle", tenStyles().notes(S, 9), 17);
        due("-1 styles", sample().body(8, -1), 17);
        due("styles at -1", sample().body(7, -1), 17);
        due("styles at a huge place", sample().body(7, Integer.MAX_VALUE), 17);
        due("styles up to the end", sample().body(7, 54).notes(54, -1, -1, 0, -1, 0, -1), 0);
        due("styles over the end", sample().body(7, 55).notes(54, -1, -1, -1, -1, -1, -1), 17);
        due("styles at 0", piecesAtTheEnd(48).body(7, 0).notes(0, -1, -1, 0, -1, 0, -1), 0);
        due("a group at 0", piecesAtTheEnd(48).notes(0, 0).notes(S + 1, 0), 0);
        due("a parent -2", sample().notes(S, -2), 17);
        due("a parent behind the last", sample().notes(S, 3), 17);
        due("a parent itself", sample().notes(S, 0), 17);
        due("parents in a circle", sample().notes(S, 2), 17);
        due("a circle beside", sample().notes(S + 2, 2), 17);
        due("a later parent", sample().notes(S, 2).notes(S + 2, 0).notes(S + 4, -1), 0);
        due("a group at -2", sample().notes(S + 1, -2), 17);
        due("a group behind the end", sample().notes(S + 1, 60), 17);
        due("a group below 0", sample().notes(G, -1), 17);
        due("a group over the end", sample().notes(S + 1, 58).notes(58, 2, 0), 17);
        due("a group up to the end", sample().notes(S + 1, 58).notes(58, 1, 0), 0);
        due("a huge group", sample().notes(G, Integer.MAX_VALUE), 17);
    }

    /** Each style has the one before as parent; the bands stand behind them. */
    private static SampleFile tenStyles() {
        SampleFile file = sample().body(8, 10).body(9, 40, 46);
        for (int s = 0; s < 10; s++) {
            file.notes(S + 2 * s, s - 1, -1);
        }
        return file.notes(40, 1, 0, 10, 9, -1, 0, 1, 0, 10, -1);
    }

    private static void rule18() {
        due("paragraphs at -1", sample().body(9, -1), 18);
        due("paragraphs at a huge place", sample().body(9, Integer.MAX_VALUE), 18);
        due("no paragraph", sample().notes(P, 0), 18);
        due("13 paragraphs", manyBands(9, 13), 18);
        due("12 paragraphs", manyBands(9, 12), 0);
        due("paragraphs at 0", piecesAtTheEnd(48).body(9, 0).notes(0, 1, 0, 10, 2, -1), 0);
        due("paragraphs up to the end", sample().body(9, 55).notes(55, 1, 0, 10, 2, -1), 0);
        due("paragraphs over the end", sample().body(9, 56).notes(56, 1, 0, 10, 2), 18);
        due("a first limit of 1", sample().notes(P + 1, 1), 18);
        due("a limit twice", sample().notes(P + 2, 0), 18);
        due("a last limit under L", sample().notes(P + 3, 9), 18);
        due("a style behind the last", sample().notes(P + 4, 3), 18);
        due("a style -1", sample().notes(P + 5, -1), 18);
        due("a group -2", sample().notes(P + 6, -2), 18);
        due("a group behind the end", sample().notes(P + 6, 60), 18);
        due("a group over the end", sample().notes(P + 7, 59).notes(59, 1), 18);
        due("an empty group at the end", sample().notes(P + 7, 59).notes(59, 0), 0);
    }

    /** A text of 13 positions, whose paragraphs (9) or runs (10) are so many. */
    private static SampleFile manyBands(int bodyWord, int n) {
        SampleFile file = sample().body(2, 13, 0, 0).body(5, 0, 6).notes(0, 2, 1, 0, 13, SampleFile.NARROW, 0);
        file.body(7, 6, 1, 8, 13).notes(6, -1, -1, 1, 0, 13, 0, -1, 1, 0, 13, -1);
        file.body(bodyWord, 17).notes(17, n);
        for (int i = 0; i < n; i++) {
            file.notes(18 + i, i).notes(19 + n + i, bodyWord == 9 ? 0 : -1);
            if (bodyWord == 9) {
                file.notes(19 + 2 * n + i, -1);
            }
        }
        return file.notes(18 + n, 13);
    }

    private static void rule19() {
        due("runs at -1", sample().body(10, -1), 19);
        due("runs at a huge place", sample().body(10, Integer.MAX_VALUE), 19);
        due("no run", sample().notes(R, 0), 19);
        due("13 runs", manyBands(10, 13), 19);
        due("12 runs", manyBands(10, 12), 0);
        due("runs up to the end", sample().body(10, 56).notes(56, 1, 0, 10, -1), 0);
        due("runs over the end", sample().body(10, 57).notes(57, 1, 0, 10), 19);
        due("a first limit of -1", sample().notes(R + 1, -1), 19);
        due("a last limit over L", sample().notes(R + 2, 11), 19);
        due("a limit that falls", sample().notes(R, 2, 0, 10, 10, -1, -1), 19);
        due("a group -2", sample().notes(R + 3, -2), 19);
        due("a group below 0", sample().notes(R + 3, FREE).notes(FREE, -1), 19);
        due("no group", sample().notes(R + 3, -1), 0);
    }

    private static void rule20() {
        due("a block's group", sample().notes(2, SampleFile.modifier(1, 3, 0)), 20);
        due("a block's group that no piece tells", sample().notes(11, 0)
            .notes(2, SampleFile.modifier(1, 1, 0)), 20);
        due("a style's group", sample().notes(G + 1, SampleFile.modifier(2, 4, 0)), 20);
        due("a paragraph's group", sample().notes(G + 8, SampleFile.modifier(2, 5, 0)), 20);
        due("the first paragraph's group", sample().notes(P + 6, FREE)
            .notes(FREE, 1, SampleFile.modifier(2, 5, 0)), 20);
        due("a run's group", sample().notes(G + 10, SampleFile.modifier(2, 6, 0)), 20);
        due("an empty group", runGroup(), 0);
        for (int kind = 3; kind <= 6; kind++) {
            due("class " + kind, runGroup(SampleFile.modifier(0, kind, 0), 0, 0), 20);
        }
        due("class 1", runGroup(SampleFile.modifier(0, 1, 0), -1), 0);
        due("class 1 cut off", runGroup(SampleFile.modifier(0, 1, 0)), 20);
        due("class 2", runGroup(SampleFile.modifier(0, 2, 0), 96, 96), 0);
        due("class 2 cut off", runGroup(SampleFile.modifier(0, 2, 0), 0), 20);
        due("class 7 without m", runGroup(SampleFile.modifier(0, 7, 0)), 20);
        due("class 7 with m of 0", runGroup(SampleFile.modifier(0, 7, 0), 0), 0);
        due("class 7 with m of 0 and more", runGroup(SampleFile.modifier(0, 7, 0), 0, 96), 20);
        due("class 7 with m of 2", runGroup(SampleFile.modifier(0, 7, 0), 2, 96, 96), 0);
        due("class 7 cut off", runGroup(SampleFile.modifier(0, 7, 0), 2, 96), 20);
        due("class 7 with m below 0", runGroup(SampleFile.modifier(0, 7, 0), -1), 20);
        due("class 7 with a huge m", runGroup(SampleFile.modifier(0, 7, 0), Integer.MAX_VALUE), 20);
        due("a broken class behind another", runGroup(SampleFile.modifier(0, 1, 0), 96, 96), 20);
        due("bits of the operand", runGroup(SampleFile.modifier(31, 0, -1)), 0);
    }

    private static SampleFile runGroup(int... modifiers) {
        return sample().notes(R + 3, FREE).notes(FREE, modifiers.length).notes(FREE + 1, modifiers);
    }

    private static void theFirstBrokenRuleIsTold() {
        SampleFile file = sample().notes(2, SampleFile.modifier(1, 3, 0));
        due("rule 20", file, 20);
        due("rule 19 before it", file.notes(R, 0), 19);
        due("rule 18 before it", file.notes(P, 0), 18);
        due("rule 17 before it", file.notes(S, 0), 17);
        due("rule 16 before it", file.notes(8, -1), 16);
        due("rule 15 before it", file.notes(6, 0), 15);
        due("rule 14 before it", file.notes(3, 0), 14);
        due("rule 13 before it", file.body(4, -1), 13);
        due("rule 12 before it", file.body(1, 2), 12);
        due("rule 11 before it", file.body(0, 0), 11);
    }

    private static void loadForgets() {
        SectorDocument x = sample().loaded();
        CHECK.due("load again", x.load(), 0);
        CHECK.due("unit after load again", x.unit(0), 'H');
        sample().body(1, 2).putInto(x);
        CHECK.due("load of a closed file", x.load(), 11);
        CHECK.due("open", x.open(), 0);
        CHECK.due("load of a broken document", x.load(), 12);
        CHECK.due("unit of a broken document", x.unit(0), -1);
        CHECK.due("length of a broken document", x.length(0), -1);
        CHECK.due("entries of its file", x.entries(), 6);
        sample().putInto(x);
        x.open();
        CHECK.due("load of a mended document", x.load(), 0);
        CHECK.due("unit of a mended document", x.unit(9), 65535);
        sample().body(5, 3, 9).putInto(x);
        x.open();
        CHECK.due("load of a document that has lost its group block", x.load(), 16);
    }
}
