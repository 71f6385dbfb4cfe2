/** Promises 16 and 17: depth, shown. */
final class FieldTest {
    private static final Checker CHECK = new Checker();

    public static void main(String[] args) {
        aFieldWithASeparator();
        fieldsInFields();
        theLatestOpenFieldIsMeant();
        marksWithoutAField();
        partsBeginAnew();
        partsLeaveFieldsOpen();
        wideMarks();
        manyFields();
        depthAndShownRefuse();
        CHECK.finish();
    }

    /** All units in one piece, in parts of these lengths. */
    private static SampleFile text(int first, int second, int third, int... units) {
        SampleFile file = new SampleFile().body(2, first, second, third);
        file.body(5, 3, 6).notes(3, 2, 1, 0, units.length, SampleFile.NARROW + 96, 0);
        file.body(7, 40, 1, 42, 48).notes(40, -1, -1, 1, 0, units.length, 0, -1, 0, 1, 0, units.length, -1);
        return file.text(48, units);
    }

    private static void due(String what, SectorDocument x, String depths, String shown) {
        for (int p = 0; p < depths.length(); p++) {
            CHECK.due(what + ": depth(" + p + ")", x.depth(p), depths.charAt(p) - '0');
            CHECK.due(what + ": shown(" + p + ")", x.shown(p), shown.charAt(p) == 'y');
        }
        CHECK.due(what + ": length", x.length(3), depths.length());
    }

    private static void aFieldWithASeparator() {
        SectorDocument x = text(8, 0, 0, 'a', 19, 'b', 20, 'c', 21, 'd', 22).loaded();
        due("one field", x, "00111100", "ynnnynyy");
        due("asked again", x, "00111100", "ynnnynyy");
        SectorDocument y = text(5, 0, 0, 19, 'b', 'c', 21, 'd').loaded();
        due("a field without a separator", y, "01110", "nnnny");
    }

    private static void fieldsInFields() {
        SectorDocument x = text(12, 0, 0, 19, 19, 20, 'a', 21, 'b', 20, 'c', 19, 20, 'd', 21).loaded();
        due("in a field", x, "012221111222", "nnnnnnnynnyn");
        SectorDocument y = text(7, 0, 0, 19, 20, 19, 'a', 21, 'b', 21).loaded();
        due("in what is shown", y, "0112211", "nnnnnyn");
    }

    private static void theLatestOpenFieldIsMeant() {
        SectorDocument x = text(9, 0, 0, 19, 19, 20, 20, 'a', 21, 'b', 20, 'c').loaded();
        due("20 twice", x, "012222111", "nnnnnnnny");
        SectorDocument y = text(9, 0, 0, 19, 20, 21, 19, 'a', 21, 'b', 21, 'c').loaded();
        due("a new field has no separator", y, "011011000", "nnnnnnyny");
    }

    private static void marksWithoutAField() {
        SectorDocument x = text(8, 0, 0, 21, 'a', 20, 'b', 19, 'c', 20, 'd').loaded();
        due("20 and 21 with none open", x, "00000111", "nynynnny");
        SectorDocument y = text(4, 0, 0, 18, 22, 0, 255).loaded();
        due("no marks", y, "0000", "yyyy");
    }

    private static void partsBeginAnew() {
        SectorDocument x = text(2, 3, 3, 19, 'a', 'b', 21, 'c', 19, 'd', 20).loaded();
        due("three parts", x, "01000011", "nnynynnn");
        SectorDocument y = text(0, 2, 2, 19, 'a', 'b', 20).loaded();
        due("an empty part before", y, "0100", "nnyn");
        SectorDocument z = text(2, 0, 2, 19, 'a', 'b', 20).loaded();
        due("an empty part between", z, "0100", "nnyn");
    }

    private static void partsLeaveFieldsOpen() {
        SectorDocument x = text(3, 4, 0, 19, 20, 19, 'a', 19, 'b', 'c').loaded();
        due("fields left open", x, "0110011", "nnnynnn");
        due("and asked again", x, "0110011", "nnnynnn");
    }

    private static void wideMarks() {
        SampleFile file = text(4, 0, 0, 0, 0, 0, 0).notes(7, 48);
        file.text(48, 19, 1, 19, 0, 20, 0, 'x', 0);
        due("wide units", file.loaded(), "0011", "ynny");
    }

    private static void manyFields() {
        SampleFile file = new SampleFile().body(2, 400, 0, 0).body(5, 0, 33).body(7, 40, 1, 42, 48);
        file.notes(0, 2, 10);
        for (int i = 0; i <= 10; i++) {
            file.notes(2 + i, 40 * i);
        }
        for (int i = 0; i < 10; i++) {
            file.notes(13 + i, SampleFile.NARROW + 96).notes(23 + i, 0);
        }
        file.notes(40, -1, -1, 1, 0, 400, 0, -1, 0, 1, 0, 400, -1);
        for (int i = 0; i < 40; i++) {
            file.text(48 + i, 19);
        }
        SectorDocument x = file.loaded();
        CHECK.due("depth with all open", x.depth(399), 399);
        CHECK.due("depth at the first", x.depth(0), 0);
        CHECK.due("shown with all open", x.shown(399), false);
    }

    private static void depthAndShownRefuse() {
        SectorDocument x = new SampleFile().loaded();
        CHECK.due("shown of the first", x.shown(0), true);
        CHECK.due("depth of the last", x.depth(9), 0);
        for (int p : new int[] {-1, 10, 400, Integer.MIN_VALUE, Integer.MAX_VALUE}) {
            CHECK.due("depth(" + p + ")", x.depth(p), -1);
            CHECK.due("shown(" + p + ")", x.shown(p), false);
        }
        x.open();
        CHECK.due("depth when not loaded", x.depth(0), -1);
        CHECK.due("shown when not loaded", x.shown(0), false);
    }
}
