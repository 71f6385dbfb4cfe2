/** Promises 11 to 13, and the term UNIT: length, unit, bands. */
final class TextTest {
    private static final int NONE = SectorDocument.NONE;
    private static final int NARROW = SampleFile.NARROW;
    private static final Checker CHECK = new Checker();

    public static void main(String[] args) {
        lengthTellsThePartsAndTheSum();
        lengthOfOthers();
        lengthWhenNotLoaded();
        unitReadsNarrowAndWide();
        unitTranslates();
        unitsThatTranslateToThemselves();
        wideUnitsDoNotTranslate();
        unitRoundsNarrowPlacesDown();
        unitAtTheEdgesOfPieces();
        bytesOfWords();
        unitWhenNotLoaded();
        unitOfNoPosition();
        bandsTellFourNumbers();
        bandsAtTheirFirstAndLastPositions();
        bandsOfParts();
        bandsUpToTwelve();
        bandsWhenNotLoaded();
        bandsOfNoPosition();
        CHECK.finish();
    }

    private static void lengthTellsThePartsAndTheSum() {
        CHECK.sentence("Promise 11", "The length of part 0, 1 or 2; L for 3");
        int[][] parts = {{5, 3, 2}, {10, 0, 0}, {0, 10, 0}, {0, 0, 10}, {1, 8, 1}, {0, 1, 9}};
        for (int[] lengths : parts) {
            SectorDocument x = new SampleFile().body(2, lengths).loaded();
            for (int part = 0; part < 3; part++) {
                CHECK.due("length(" + part + ")", x.length(part), lengths[part]);
            }
            CHECK.due("length(3)", x.length(3), 10);
        }
        SectorDocument y = LongText.of(0, 400, 0).loaded();
        CHECK.due("a part of 400", y.length(1), 400);
        CHECK.due("an empty part", y.length(0), 0);
        CHECK.due("another empty part", y.length(2), 0);
        CHECK.due("400 in all", y.length(3), 400);
    }

    private static void lengthOfOthers() {
        CHECK.sentence("Promise 11", "NONE for others");
        SectorDocument x = new SampleFile().loaded();
        for (int part : Far.out(-1, -2, 4, 5, 256, 256 + 3, 65536 + 3)) {
            CHECK.due("length(" + part + ")", x.length(part), NONE);
        }
    }

    private static void lengthWhenNotLoaded() {
        CHECK.sentence("Promise 11", "or when no document is loaded");
        for (SectorDocument x : States.notLoaded()) {
            for (int part = -1; part <= 4; part++) {
                CHECK.due("length(" + part + ")", x.length(part), NONE);
            }
        }
    }

    private static void unitReadsNarrowAndWide() {
        CHECK.sentence("Promise 12", "The unit at position p");
        SectorDocument x = new SampleFile().loaded();
        int[] due = {'H', 'i', '!', 8218, 376, 200, 0x263A, 'A', 130, 65535};
        for (int p = 0; p < due.length; p++) {
            CHECK.due("unit(" + p + ")", x.unit(p), due[p]);
        }
        CHECK.sentence("Terms: UNIT", "The UNIT at a position, 0 .. 65535");
        SectorDocument y = new SampleFile().text(56, 0, 0, 255, 255, 0, 128, 255, 127).text(48, 0, 255).loaded();
        CHECK.due("the least wide unit", y.unit(6), 0);
        CHECK.due("the most wide unit", y.unit(7), 65535);
        CHECK.due("the sixteenth bit", y.unit(8), 32768);
        CHECK.due("all but the sixteenth bit", y.unit(9), 32767);
        CHECK.due("the least narrow unit", y.unit(0), 0);
        CHECK.due("the most narrow unit", y.unit(1), 255);
    }

    private static int narrow(int b) {
        return new SampleFile().text(48, b).loaded().unit(0);
    }

    private static void unitTranslates() {
        CHECK.sentence("Terms: UNIT",
            "130 .. 140 translate to 8218, 402, 8222, 8230, 8224, 8225, 710, 8240, 352, 8249, 338");
        int[] low = {8218, 402, 8222, 8230, 8224, 8225, 710, 8240, 352, 8249, 338};
        for (int b = 130; b <= 140; b++) {
            CHECK.due("byte " + b, narrow(b), low[b - 130]);
        }
        CHECK.sentence("Terms: UNIT",
            "145 .. 156 to 8216, 8217, 8220, 8221, 8226, 8211, 8212, 732, 8482, 353, 8250, 339");
        int[] high = {8216, 8217, 8220, 8221, 8226, 8211, 8212, 732, 8482, 353, 8250, 339};
        for (int b = 145; b <= 156; b++) {
            CHECK.due("byte " + b, narrow(b), high[b - 145]);
        }
        CHECK.sentence("Terms: UNIT", "159 to 376");
        CHECK.due("byte 159", narrow(159), 376);
    }

    private static void unitsThatTranslateToThemselves() {
        CHECK.sentence("Terms: UNIT", "128, 129, 141 .. 144, 157 and 158 to themselves");
        for (int b : new int[] {128, 129, 141, 142, 143, 144, 157, 158}) {
            CHECK.due("byte " + b, narrow(b), b);
        }
        CHECK.sentence("Terms: UNIT", "but for those of 128 .. 159 that TRANSLATE");
        for (int b = 0; b < 256; b++) {
            if (b < 128 || b > 159) {
                CHECK.due("byte " + b, narrow(b), b);
            }
        }
    }

    private static void wideUnitsDoNotTranslate() {
        CHECK.sentence("Terms: UNIT", "otherwise it is byte x + 2 * k plus 256 times byte x + 2 * k + 1 of the body");
        for (int b = 0; b < 256; b++) {
            SectorDocument x = new SampleFile().text(56, b, 0, 0, b, b, 1, 7, b).loaded();
            CHECK.due("byte " + b + " and 0", x.unit(6), b);
            CHECK.due("byte 0 and " + b, x.unit(7), 256 * b);
            CHECK.due("byte " + b + " and 1", x.unit(8), 256 + b);
            CHECK.due("byte 7 and " + b, x.unit(9), 256 * b + 7);
        }
    }

    private static void unitRoundsNarrowPlacesDown() {
        CHECK.sentence("Terms: UNIT", "When bit 30 of d is set, the unit is byte x / 2 + k (rounded down) of the body");
        SectorDocument x = new SampleFile().notes(8, NARROW + 97).loaded();
        CHECK.due("narrow from an odd place", x.unit(0), 'H');
        CHECK.due("its next", x.unit(1), 'i');
        SectorDocument y = new SampleFile().notes(8, NARROW + 98).loaded();
        CHECK.due("narrow from the next even place", y.unit(0), 'i');
        SectorDocument z = new SampleFile().notes(8, NARROW + 1).loaded();
        CHECK.due("narrow from place 1", z.unit(0), 0xEC);
        CHECK.sentence("Terms: UNIT", "x is d without bit 30");
        SectorDocument w = new SampleFile().notes(8, NARROW).notes(9, 0).loaded();
        CHECK.due("narrow from 0", w.unit(0), 0xEC);
        CHECK.due("narrow from 0, the next", w.unit(1), 0xA5);
        CHECK.due("wide from 0", w.unit(6), 0xA5EC);
    }

    private static void unitAtTheEdgesOfPieces() {
        CHECK.sentence("Terms: UNIT", "it is k positions behind the beginning of its piece's band");
        SampleFile file = new SampleFile().notes(9, NARROW + 96);
        for (int second = 1; second <= 9; second++) {
            SectorDocument x = file.notes(6, second).loaded();
            CHECK.due("the first of piece 0", x.unit(0), 'H');
            CHECK.due("the first of piece 1", x.unit(second), 'H');
            CHECK.due("the last of piece 0", x.unit(second - 1), due(second - 1));
            CHECK.due("the last of piece 1", x.unit(9), due(9 - second));
        }
    }

    private static int due(int k) {
        return new int[] {'H', 'i', '!', 8218, 376, 200, 0, 0, 0x3A, 0x26}[k];
    }

    private static void bytesOfWords() {
        CHECK.sentence("Terms: UNIT", "Byte y of the body is bits 8 * (y mod 4) .. of its word y / 4");
        SectorDocument x = new SampleFile().body(12, 0x81828384, 0xFEFDFCFB).notes(9, 49).loaded();
        int[] narrow = {8222, 402, 8218, 129, 0xFB, 0xFC};
        for (int p = 0; p < narrow.length; p++) {
            CHECK.due("narrow unit " + p, x.unit(p), narrow[p]);
        }
        CHECK.due("wide unit within a word", x.unit(6), 0x8283);
        CHECK.due("wide unit over two words", x.unit(7), 0xFB81);
        CHECK.due("wide unit behind it", x.unit(8), 0xFDFC);
        SectorDocument y = new SampleFile().notes(8, NARROW + 2 * 82).body(20, 0, 0x44332211).loaded();
        CHECK.due("the first byte of the last word", y.unit(2), 0x11);
        CHECK.due("the last byte of the body", y.unit(5), 0x44);
        SectorDocument z = new SampleFile().notes(9, 28).body(7, 12).loaded();
        CHECK.due("bytes in the first sector of the body", z.unit(6), 12);
        CHECK.due("bytes in the next sector of the body", z.unit(8), 3);
    }

    private static void unitWhenNotLoaded() {
        CHECK.sentence("Promise 12", "NONE when no document is loaded");
        for (SectorDocument x : States.notLoaded()) {
            for (int p : new int[] {-1, 0, 9, 10}) {
                CHECK.due("unit(" + p + ")", x.unit(p), NONE);
            }
        }
    }

    private static void unitOfNoPosition() {
        CHECK.sentence("Promise 12", "or p is no position");
        SectorDocument x = new SampleFile().loaded();
        CHECK.due("the first", x.unit(0), 'H');
        CHECK.due("the last", x.unit(9), 65535);
        for (int p : Far.out(-1, -2, 10, 11, 16, 88, 399, 400, 401, 256, 65536 + 1)) {
            CHECK.due("unit(" + p + ")", x.unit(p), NONE);
        }
        SectorDocument y = LongText.of(100, 100, 200).loaded();
        CHECK.due("the last of 400", y.unit(399), y.unit(39));
        CHECK.due("the first of the last piece", y.unit(360), 'H');
        CHECK.due("behind 400", y.unit(400), NONE);
        SampleFile shorter = new SampleFile().body(2, 5, 3, 1).notes(7, 9);
        shorter.notes(SampleFile.PARAGRAPHS + 3, 9).notes(SampleFile.RUNS + 2, 9);
        SectorDocument z = new SampleFile().loaded();
        shorter.putInto(z);
        CHECK.due("open of a shorter text", z.open(), 0);
        CHECK.due("load of a shorter text", z.load(), 0);
        CHECK.due("its last", z.unit(8), 130);
        CHECK.due("what was a position before", z.unit(9), NONE);
    }

    private static void bandsTellFourNumbers() {
        CHECK.sentence("Promise 13", "the number of its piece, times 16 that of its paragraph, "
            + "times 256 that of its run, times 4096 that of its part, added up");
        SectorDocument x = new SampleFile().notes(SampleFile.RUNS, 2, 0, 7, 10, -1, -1).loaded();
        int[] due = {0, 0, 0, 0, 0x10, 0x1010, 0x1011, 0x1111, 0x2111, 0x2111};
        for (int p = 0; p < due.length; p++) {
            CHECK.due("bands(" + p + ")", x.bands(p), due[p]);
        }
    }

    private static void bandsAtTheirFirstAndLastPositions() {
        CHECK.sentence("Terms: BANDS", "Band i is for the positions from limit i to limit i + 1, without the latter");
        for (int limit = 1; limit <= 9; limit++) {
            SampleFile file = new SampleFile().notes(6, limit).notes(8, NARROW, NARROW);
            file.notes(SampleFile.PARAGRAPHS + 2, 10 - limit);
            SectorDocument x = file.notes(SampleFile.RUNS, 2, 0, limit, 10, -1, -1).loaded();
            for (int p = 0; p < 10; p++) {
                int due = (p >= limit ? 0x101 : 0) + (p >= 10 - limit ? 0x10 : 0);
                CHECK.due("bands(" + p + ") with a limit " + limit, x.bands(p) & 0xFFF, due);
            }
        }
    }

    private static void bandsOfParts() {
        CHECK.sentence("Terms: DOCUMENT", "the POSITIONS 0 .. L - 1 are those of part 0, then part 1, then part 2");
        for (int first = 0; first <= 10; first++) {
            for (int second = 0; first + second <= 10; second++) {
                SectorDocument x = new SampleFile().body(2, first, second, 10 - first - second).loaded();
                for (int p = 0; p < 10; p++) {
                    int part = p < first ? 0 : p < first + second ? 1 : 2;
                    CHECK.due("part of " + p + " with " + first + " and " + second, x.bands(p) >> 12, part);
                }
            }
        }
        SectorDocument y = LongText.of(100, 100, 200).loaded();
        CHECK.due("the last of part 0", y.bands(99), 0x0002);
        CHECK.due("the first of part 1", y.bands(100), 0x1002);
        CHECK.due("the last of part 1", y.bands(199), 0x1004);
        CHECK.due("the first of part 2", y.bands(200), 0x2005);
        CHECK.due("the last of part 2", y.bands(399), 0x2009);
    }

    private static void bandsUpToTwelve() {
        CHECK.sentence("Promise 13",
            "the number of its piece, times 16 that of its paragraph, times 256 that of its run");
        SectorDocument runs = twelve(10).loaded();
        SectorDocument paragraphs = twelve(9).loaded();
        SectorDocument pieces = twelve(5).loaded();
        for (int p = 0; p < 12; p++) {
            CHECK.due("run of " + p, runs.bands(p), 256 * p);
            CHECK.due("paragraph of " + p, paragraphs.bands(p), 16 * p);
            CHECK.due("piece of " + p, pieces.bands(p), p);
        }
    }

    /** 12 positions, with twelve bands of those that this word of the body tells, and one of the others. */
    private static SampleFile twelve(int bodyWord) {
        SampleFile file = new SampleFile().body(2, 12, 0, 0).body(5, 0, 6, 6, 1, 8, 13);
        file.notes(0, 2, 1, 0, 12, NARROW, 0, -1, -1, 1, 0, 12, 0, -1, 1, 0, 12, -1);
        int columns = bodyWord == 10 ? 1 : 2;
        int at = bodyWord == 5 ? 18 : 17;
        file.notes(at - 1, bodyWord == 5 ? 2 : -1).notes(at, 12);
        for (int i = 0; i < 12; i++) {
            file.notes(at + 1 + i, i).notes(at + 14 + i, bodyWord == 10 ? -1 : bodyWord == 9 ? 0 : NARROW);
            if (columns == 2) {
                file.notes(at + 26 + i, bodyWord == 9 ? -1 : 0);
            }
        }
        file.notes(at + 13, 12).body(bodyWord, bodyWord == 5 ? at - 1 : at);
        return bodyWord == 5 ? file.body(6, 39) : file;
    }

    private static void bandsWhenNotLoaded() {
        CHECK.sentence("Promise 13", "NONE when no document is loaded");
        for (SectorDocument x : States.notLoaded()) {
            for (int p : new int[] {-1, 0, 9, 10}) {
                CHECK.due("bands(" + p + ")", x.bands(p), NONE);
            }
        }
    }

    private static void bandsOfNoPosition() {
        CHECK.sentence("Promise 13", "or p is no position");
        SectorDocument x = new SampleFile().loaded();
        CHECK.due("the first", x.bands(0), 0);
        CHECK.due("the last", x.bands(9), 0x2011);
        for (int p : Far.out(-1, -2, 10, 11, 16, 399, 400, 401, 256, 65536 + 1)) {
            CHECK.due("bands(" + p + ")", x.bands(p), NONE);
        }
        SectorDocument y = LongText.of(400, 0, 0).loaded();
        CHECK.due("the last of 400", y.bands(399), 9);
        CHECK.due("behind 400", y.bands(400), NONE);
    }
}
