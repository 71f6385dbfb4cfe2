/** Promise 10, rules 18 and 19, and the terms BANDS, PARAGRAPHS and RUNS. */
final class BandRulesTest {
    private static final int P = SampleFile.PARAGRAPHS;
    private static final int R = SampleFile.RUNS;
    private static final int END = SampleFile.NOTES_SIZE;
    private static final Checker CHECK = new Checker();

    public static void main(String[] args) {
        howManyParagraphs();
        howManyRuns();
        theWordsOfParagraphsExist();
        theWordsOfRunsExist();
        limitsOfParagraphs();
        limitsOfRuns();
        stylesOfParagraphs();
        groupsOfParagraphs();
        groupsOfRuns();
        CHECK.finish();
    }

    private static SampleFile sample() {
        return new SampleFile();
    }

    private static void due(String what, SampleFile file, int rule) {
        SectorDocument x = file.opened();
        CHECK.due(what, x.load(), rule);
        CHECK.due(what + ": is loaded", x.length(3) != SectorDocument.NONE, rule == 0);
    }

    /** A text of 14 positions, whose paragraphs (two columns) or runs (one) are so many, from place 17 on. */
    private static SampleFile manyBands(int columns, int n) {
        SampleFile file = sample().body(2, 14, 0, 0).body(5, 0, 6).notes(0, 2, 1, 0, 14, SampleFile.NARROW, 0);
        file.body(7, 6, 1, 8, 13).notes(6, -1, -1, 1, 0, 14, 0, -1, 1, 0, 14, -1);
        file.body(columns == 2 ? 9 : 10, 17).notes(17, n);
        for (int i = 0; i < n; i++) {
            file.notes(18 + i, i).notes(19 + n + i, columns == 2 ? 0 : -1);
            if (columns == 2) {
                file.notes(19 + 2 * n + i, -1);
            }
        }
        return n < 0 ? file : file.notes(18 + n, 14);
    }

    private static void howManyParagraphs() {
        CHECK.sentence("Rule 18", "the paragraphs are as said");
        for (int n = 0; n <= 13; n++) {
            due(n + " paragraphs", manyBands(2, n), n >= 1 && n <= 12 ? 0 : 18);
        }
        for (int n : Far.out(0, -1, -2, 13, 14, 256 + 2, 65536 + 2, 0x55555556)) {
            due(n + " paragraphs", sample().notes(P, n), 18);
        }
    }

    private static void howManyRuns() {
        CHECK.sentence("Rule 19", "the runs are as said");
        for (int n = 0; n <= 14; n++) {
            due(n + " runs", manyBands(1, n), n >= 1 && n <= 12 ? 0 : 19);
        }
        for (int n : Far.out(0, -1, -2, 13, 14, 256 + 1, 65536 + 1, 0x7FFFFFFF)) {
            due(n + " runs", sample().notes(R, n), 19);
        }
    }

    private static void theWordsOfParagraphsExist() {
        CHECK.sentence("Terms: PARAGRAPHS", "bands with two columns at the place that word 9 of the body tells");
        due("one up to the end", sample().body(9, END - 5).notes(END - 5, 1, 0, 10, 2, -1), 0);
        due("one over the end by one", sample().body(9, END - 4).notes(END - 4, 1, 0, 10, 2, -1), 18);
        due("one over the end by two", sample().body(9, END - 3).notes(END - 3, 1, 0, 10, 2), 18);
        due("two up to the end", sample().body(9, END - 8).notes(END - 8, 2, 0, 4, 10, 0, 2, -1, -1), 0);
        due("two over the end by one", sample().body(9, END - 7).notes(END - 7, 2, 0, 4, 10, 0, 2, -1, -1), 18);
        due("at 0", sample().body(5, 48, 12).notes(48, 1, 1, 0, 2, 2, 0, 6, 10, SampleFile.NARROW, 0, 0, 0)
            .body(9, 0).notes(0, 1, 0, 10, 2, -1), 0);
        for (int place : Far.out(-1, -2, END - 1, END, END + 1, 64, Integer.MIN_VALUE + P, 1 << 29 | P)) {
            due("paragraphs at " + place, sample().notes(END - 1, 1).body(9, place), 18);
        }
        CHECK.sentence("Terms: BANDS", "then c times n words, column by column; all exist");
        due("twelve up to the end", moved(2, END - 38), 0);
        due("twelve over the end", moved(2, END - 37), 18);
    }

    /** Twelve bands, the words from place 17 on moved to this one. */
    private static SampleFile moved(int columns, int place) {
        SampleFile file = manyBands(columns, 12);
        int count = 2 + 12 + 12 * columns;
        int[] bands = new int[count];
        for (int i = 0; i < count; i++) {
            bands[i] = file.words[SampleFile.inChain(SampleFile.NOTES, 17 + i)];
        }
        return file.notes(place, bands).body(columns == 2 ? 9 : 10, place);
    }

    private static void theWordsOfRunsExist() {
        CHECK.sentence("Terms: PARAGRAPHS", "RUNS: bands with one column at the place that word 10 tells");
        due("one up to the end", sample().body(10, END - 4).notes(END - 4, 1, 0, 10, -1), 0);
        due("one over the end by one", sample().body(10, END - 3).notes(END - 3, 1, 0, 10, -1), 19);
        due("one over the end by two", sample().body(10, END - 2).notes(END - 2, 1, 0), 19);
        due("two up to the end", sample().body(10, END - 6).notes(END - 6, 2, 0, 4, 10, -1, -1), 0);
        due("two over the end by one", sample().body(10, END - 5).notes(END - 5, 2, 0, 4, 10, -1, -1), 19);
        due("twelve up to the end", moved(1, END - 26), 0);
        due("twelve over the end", moved(1, END - 25), 19);
        due("at 0", sample().body(5, 48, 12).notes(48, 1, 1, 0, 2, 2, 0, 6, 10, SampleFile.NARROW, 0, 0, 0)
            .body(10, 0).notes(0, 1, 0, 10, -1), 0);
        for (int place : Far.out(-1, -2, END - 1, END, END + 1, 64, Integer.MIN_VALUE + R, 1 << 29 | R)) {
            due("runs at " + place, sample().notes(END - 1, 1).body(10, place), 19);
        }
    }

    private static void limitsOfParagraphs() {
        CHECK.sentence("Rule 18", "the paragraphs are as said");
        for (int limit : Far.out(-1, 1)) {
            due("a first limit " + limit, sample().notes(P + 1, limit), 18);
        }
        for (int limit : Far.out(-1, 0, 10, 11)) {
            due("a second limit " + limit, sample().notes(P + 2, limit), 18);
        }
        due("a second limit 1", sample().notes(P + 2, 1), 0);
        due("a second limit 9", sample().notes(P + 2, 9), 0);
        for (int limit : Far.out(-1, 0, 4, 9, 11)) {
            due("a last limit " + limit, sample().notes(P + 3, limit), 18);
        }
        for (int i = 1; i <= 12; i++) {
            due("limit " + i + " of 12 as the one before", manyBands(2, 12).notes(18 + i, i - 1), 18);
        }
    }

    private static void limitsOfRuns() {
        CHECK.sentence("Rule 19", "the runs are as said");
        for (int limit : Far.out(-1, 1)) {
            due("a first limit " + limit, sample().notes(R + 1, limit), 19);
        }
        for (int limit : Far.out(-1, 0, 9, 11)) {
            due("a last limit " + limit, sample().notes(R + 2, limit), 19);
        }
        for (int limit : Far.out(-1, 0, 10, 11)) {
            due("a second limit " + limit, sample().notes(R, 2, 0, limit, 10, -1, -1), 19);
        }
        due("a second limit 1", sample().notes(R, 2, 0, 1, 10, -1, -1), 0);
        due("a second limit 9", sample().notes(R, 2, 0, 9, 10, -1, -1), 0);
        for (int i = 1; i <= 12; i++) {
            due("limit " + i + " of 12 as the one before", manyBands(1, 12).notes(18 + i, i - 1), 19);
        }
    }

    private static void stylesOfParagraphs() {
        CHECK.sentence("Rule 18", "each has a style");
        for (int i = 4; i <= 5; i++) {
            for (int style : Far.out(-1, -2, 3, 4, 10, 256 + 2, 65536 + 2)) {
                due("style " + style, sample().notes(P + i, style), 18);
            }
            for (int style = 0; style < 3; style++) {
                due("style " + style, sample().notes(P + i, style), 0);
            }
        }
        due("style 0 of one", sample().body(8, 1).notes(P + 5, 0), 0);
        due("style 1 of one", sample().body(8, 1).notes(P + 5, 1), 18);
        due("style 2 of two", sample().body(8, 2).notes(P + 5, 2), 18);
        for (int i = 0; i < 12; i++) {
            due("paragraph " + i + " of 12 without a style", manyBands(2, 12).notes(31 + i, 1), 18);
        }
    }

    private static void groupsOfParagraphs() {
        CHECK.sentence("Rule 18", "and -1 or a group");
        for (int i = 6; i <= 7; i++) {
            dueGroups("a paragraph's group", P + i, 18);
        }
        for (int i = 0; i < 12; i++) {
            due("paragraph " + i + " of 12, no group", manyBands(2, 12).notes(43 + i, -2), 18);
        }
    }

    private static void groupsOfRuns() {
        CHECK.sentence("Rule 19", "each has -1 or a group");
        dueGroups("a run's group", R + 3, 19);
        for (int i = 0; i < 12; i++) {
            due("run " + i + " of 12, no group", manyBands(1, 12).notes(31 + i, -2), 19);
        }
    }

    /** The word at this place of the notes tells a group. */
    private static void dueGroups(String what, int at, int rule) {
        for (int place : Far.out(-2, -3, END, END + 1, 64, Integer.MIN_VALUE + 34, 1 << 29 | 34)) {
            due(what + " at " + place, sample().notes(at, place), rule);
        }
        due(what + " at -1", sample().notes(at, -1), 0);
        due(what + ", empty, at the end", sample().notes(at, END - 1).notes(END - 1, 0), 0);
        for (int n : Far.out(-1, -2, 1, 2)) {
            due(what + " at the end, of " + n, sample().notes(at, END - 1).notes(END - 1, n), rule);
        }
        for (int n : Far.out(-1, -2, 4, END, Integer.MAX_VALUE - END, Integer.MAX_VALUE - END + 4)) {
            due(what + " of " + n, sample().notes(at, END - 4).notes(END - 4, n, 0, 0, 0), rule);
        }
        for (int n = 0; n <= 3; n++) {
            due(what + " of " + n, sample().notes(at, END - 4).notes(END - 4, n, 0, 0, 0), 0);
        }
    }
}
