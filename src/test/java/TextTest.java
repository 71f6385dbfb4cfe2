/** Promises 11 to 13: length, unit, bands. */
final class TextTest {
    private static final Checker CHECK = new Checker();

    public static void main(String[] args) {
        lengthTellsThePartsAndTheSum();
        unitReadsNarrowAndWide();
        unitTranslates();
        unitRoundsNarrowPlacesDown();
        unitCrossesWords();
        unitRefuses();
        bandsTellFourNumbers();
        bandsStepOverEmptyParts();
        bandsGoUpToTwelve();
        fourHundredPositions();
        CHECK.finish();
    }

    private static void lengthTellsThePartsAndTheSum() {
        SectorDocument x = new SampleFile().loaded();
        CHECK.due("length(0)", x.length(0), 5);
        CHECK.due("length(1)", x.length(1), 3);
        CHECK.due("length(2)", x.length(2), 2);
        CHECK.due("length(3)", x.length(3), 10);
        for (int part : new int[] {-1, 4, Integer.MIN_VALUE, Integer.MAX_VALUE}) {
            CHECK.due("length of part " + part, x.length(part), -1);
        }
        x.open();
        CHECK.due("length when not loaded", x.length(0), -1);
    }

    private static void unitReadsNarrowAndWide() {
        SectorDocument x = new SampleFile().loaded();
        int[] due = {'H', 'i', '!', 8218, 376, 200, 0x263A, 'A', 130, 65535};
        for (int p = 0; p < due.length; p++) {
            CHECK.due("unit(" + p + ")", x.unit(p), due[p]);
        }
    }

    private static void unitTranslates() {
        int[] due = {
            128, 129, 8218, 402, 8222, 8230, 8224, 8225, 710, 8240, 352, 8249, 338, 141, 142, 143,
            144, 8216, 8217, 8220, 8221, 8226, 8211, 8212, 732, 8482, 353, 8250, 339, 157, 158, 376
        };
        for (int b = 0; b < 256; b++) {
            SectorDocument x = new SampleFile().text(48, b).text(56, b, 0).loaded();
            CHECK.due("narrow unit of byte " + b, x.unit(0), b >= 128 && b < 160 ? due[b - 128] : b);
            CHECK.due("wide unit of byte " + b, x.unit(6), b);
        }
    }

    private static void unitRoundsNarrowPlacesDown() {
        SectorDocument x = new SampleFile().notes(8, SampleFile.NARROW + 97).loaded();
        CHECK.due("narrow from an odd place", x.unit(0), 'H');
        CHECK.due("its next", x.unit(1), 'i');
    }

    private static void unitCrossesWords() {
        SectorDocument x = new SampleFile().notes(9, 51).text(51, 1, 2, 3, 4, 5, 6, 7, 8).loaded();
        CHECK.due("wide from an odd place", x.unit(6), 0x0201);
        CHECK.due("the next of it", x.unit(7), 0x0403);
        CHECK.due("the last of it", x.unit(9), 0x0807);
        SectorDocument y = new SampleFile().text(48, 255, 254).notes(8, SampleFile.NARROW + 96).loaded();
        CHECK.due("a word with its sign", y.unit(0), 255);
        SectorDocument z = new SampleFile().notes(8, SampleFile.NARROW).loaded();
        CHECK.due("the first byte of the body", z.unit(0), 0xEC);
        CHECK.due("the second byte of the body", z.unit(1), 0xA5);
        CHECK.due("the first byte of its second word", z.unit(4), 0);
    }

    private static void unitRefuses() {
        SectorDocument x = new SampleFile().loaded();
        for (int p : new int[] {-1, 10, 400, Integer.MIN_VALUE, Integer.MAX_VALUE}) {
            CHECK.due("unit(" + p + ")", x.unit(p), -1);
            CHECK.due("bands(" + p + ")", x.bands(p), -1);
        }
        x.open();
        CHECK.due("unit when not loaded", x.unit(0), -1);
        CHECK.due("bands when not loaded", x.bands(0), -1);
    }

    private static void bandsTellFourNumbers() {
        SampleFile file = new SampleFile().notes(SampleFile.RUNS, 2, 0, 7, 10, -1, -1);
        SectorDocument x = file.loaded();
        int[] due = {0, 0, 0, 0, 0x10, 0x1010, 0x1011, 0x1111, 0x2111, 0x2111};
        for (int p = 0; p < due.length; p++) {
            CHECK.due("bands(" + p + ")", x.bands(p), due[p]);
        }
    }

    private static void bandsStepOverEmptyParts() {
        SectorDocument x = new SampleFile().body(2, 0, 4, 6).loaded();
        CHECK.due("the first of part 1", x.bands(0) >> 12, 1);
        CHECK.due("the last of part 1", x.bands(3) >> 12, 1);
        CHECK.due("the first of part 2", x.bands(4) >> 12, 2);
        SectorDocument y = new SampleFile().body(2, 4, 0, 6).loaded();
        CHECK.due("the last of part 0", y.bands(3) >> 12, 0);
        CHECK.due("behind an empty part 1", y.bands(4) >> 12, 2);
        SectorDocument z = new SampleFile().body(2, 0, 0, 10).loaded();
        CHECK.due("part 2 alone", z.bands(0) >> 12, 2);
        CHECK.due("length of an empty part", z.length(1), 0);
    }

    private static void bandsGoUpToTwelve() {
        SampleFile file = new SampleFile().body(2, 12, 0, 0).notes(7, 12).notes(SampleFile.PARAGRAPHS + 3, 12);
        file.notes(9, 40).body(10, 32).notes(32, 12, 0, 1, 2, 3, 4, 5, 6, 7, 8, 9, 10, 11, 12);
        file.notes(46, -1, -1, -1, -1, -1, -1, -1, -1, -1, -1, -1, -1);
        file.notes(SampleFile.STYLES, -1, -1, -1, -1, -1, -1).notes(SampleFile.PARAGRAPHS + 6, -1, -1);
        SectorDocument x = file.loaded();
        for (int p = 0; p < 12; p++) {
            CHECK.due("run of " + p, x.bands(p) >> 8 & 15, p);
        }
    }

    /** 400 positions in pieces that read the same 40 bytes. */
    private static void fourHundredPositions() {
        SampleFile file = new SampleFile().body(2, 100, 100, 200).body(5, 0, 33).body(7, 40, 1, 42, 48);
        file.notes(0, 2, 10);
        for (int i = 0; i <= 10; i++) {
            file.notes(2 + i, 40 * i);
        }
        for (int i = 0; i < 10; i++) {
            file.notes(13 + i, SampleFile.NARROW + 96).notes(23 + i, 0);
        }
        file.notes(40, -1, -1, 1, 0, 400, 0, -1, 0, 1, 0, 400, -1);
        SectorDocument x = file.loaded();
        CHECK.due("the first of part 2", x.bands(200), 0x2005);
        CHECK.due("length of all", x.length(3), 400);
        CHECK.due("the last unit of all", x.unit(399), x.unit(39));
        CHECK.due("the last piece of all", x.bands(399), 0x2009);
        CHECK.due("a first unit", x.unit(360), 'H');
        CHECK.due("behind all", x.unit(400), -1);
        CHECK.due("the look of the last", x.look(399, 1), 20);
    }
}
