/** Promises 16 and 17, and the term FIELDS: depth, shown. */
final class FieldTest {
    private static final Checker CHECK = new Checker();

    public static void main(String[] args) {
        depthCountsOpenFields();
        depthWhenNotLoaded();
        depthOfNoPosition();
        shownIsNoMark();
        shownInFields();
        shownWhenNotLoaded();
        shownOfNoPosition();
        aFieldOpensWithoutASeparator();
        theLatestOpenFieldIsMeant();
        aFieldIsClosed();
        marksWithoutAField();
        partsBeginAnew();
        partsLeaveFieldsOpen();
        wideMarks();
        asManyAsPositions();
        CHECK.finish();
    }

    /** All units in one piece, in parts of these lengths. */
    private static SampleFile text(int first, int second, int third, int... units) {
        SampleFile file = new SampleFile().body(2, first, second, third);
        file.body(5, 3, 6).notes(3, 2, 1, 0, units.length, SampleFile.NARROW + 96, 0);
        file.body(7, 40, 1, 42, 48).notes(40, -1, -1, 1, 0, units.length, 0, -1, 0, 1, 0, units.length, -1);
        return file.text(48, units);
    }

    private static void due(String what, SectorDocument x, String depths, String shown) {
        for (int p = 0; p < depths.length(); p++) {
            CHECK.due(what + ": depth(" + p + ")", x.depth(p), depths.charAt(p) - '0');
            CHECK.due(what + ": shown(" + p + ")", x.shown(p), shown.charAt(p) == 'y');
        }
        CHECK.due(what + ": length", x.length(3), depths.length());
    }

    private static void depthCountsOpenFields() {
        CHECK.sentence("Promise 16", "How many fields of its part are open before the unit at position p");
        SectorDocument x = text(8, 0, 0, 'a', 19, 'b', 20, 'c', 21, 'd', 22).loaded();
        due("one field", x, "00111100", "ynnnynyy");
        due("asked again", x, "00111100", "ynnnynyy");
        SectorDocument y = text(6, 0, 0, 19, 19, 19, 21, 21, 21).loaded();
        due("a mark itself is not before it", y, "012321", "nnnnnn");
    }

    private static void depthWhenNotLoaded() {
        CHECK.sentence("Promise 16", "NONE when no document is loaded");
        for (SectorDocument x : States.notLoaded()) {
            for (int p : new int[] {-1, 0, 9, 10}) {
                CHECK.due("depth(" + p + ")", x.depth(p), SectorDocument.NONE);
            }
        }
    }

    private static void depthOfNoPosition() {
        CHECK.sentence("Promise 16", "or p is no position");
        SectorDocument x = new SampleFile().loaded();
        CHECK.due("the first", x.depth(0), 0);
        CHECK.due("the last", x.depth(9), 0);
        for (int p : Far.out(-1, -2, 10, 11, 399, 400, 401, 256, 65536 + 1)) {
            CHECK.due("depth(" + p + ")", x.depth(p), SectorDocument.NONE);
        }
        SectorDocument y = LongText.of(400, 0, 0).loaded();
        CHECK.due("the last of 400", y.depth(399), 0);
        CHECK.due("behind 400", y.depth(400), SectorDocument.NONE);
    }

    private static void shownIsNoMark() {
        CHECK.sentence("Promise 17", "Whether the unit at position p is none of 19, 20, 21");
        for (int unit = 0; unit < 256; unit++) {
            SectorDocument x = text(2, 0, 0, unit, 'a').loaded();
            CHECK.due("shown with " + unit, x.shown(0), unit < 19 || unit > 21);
        }
        SectorDocument y = text(6, 0, 0, 19, 20, 18, 22, 20, 21).loaded();
        due("in a field with a separator", y, "011111", "nnyynn");
    }

    private static void shownInFields() {
        CHECK.sentence("Promise 17", "every field that is open before it has its separator");
        SectorDocument x = text(12, 0, 0, 19, 19, 20, 'a', 21, 'b', 20, 'c', 19, 20, 'd', 21).loaded();
        due("in a field", x, "012221111222", "nnnnnnnynnyn");
        SectorDocument y = text(7, 0, 0, 19, 20, 19, 'a', 21, 'b', 21).loaded();
        due("in what is shown", y, "0112211", "nnnnnyn");
        SectorDocument z = text(9, 0, 0, 19, 20, 19, 19, 20, 'a', 21, 20, 'b').loaded();
        due("the middle one without", z, "011233322", "nnnnnnnny");
        SectorDocument w = text(6, 0, 0, 19, 20, 19, 20, 'a', 'b').loaded();
        due("all with one", w, "011222", "nnnnyy");
    }

    private static void shownWhenNotLoaded() {
        CHECK.sentence("Promise 17", "false also when no document is loaded");
        CHECK.due("shown when loaded", new SampleFile().loaded().shown(0), true);
        for (SectorDocument x : States.notLoaded()) {
            for (int p : new int[] {-1, 0, 9, 10}) {
                CHECK.due("shown(" + p + ")", x.shown(p), false);
            }
        }
    }

    private static void shownOfNoPosition() {
        CHECK.sentence("Promise 17", "or p is no position");
        SectorDocument x = new SampleFile().loaded();
        CHECK.due("the first", x.shown(0), true);
        CHECK.due("the last", x.shown(9), true);
        for (int p : Far.out(-1, -2, 10, 11, 399, 400, 401, 256, 65536 + 1)) {
            CHECK.due("shown(" + p + ")", x.shown(p), false);
        }
        SectorDocument y = LongText.of(0, 0, 400).loaded();
        CHECK.due("the last of 400", y.shown(399), true);
        CHECK.due("behind 400", y.shown(400), false);
    }

    private static void aFieldOpensWithoutASeparator() {
        CHECK.sentence("Terms: FIELDS", "19 opens a field without a SEPARATOR");
        SectorDocument x = text(5, 0, 0, 19, 'b', 'c', 21, 'd').loaded();
        due("a field without a separator", x, "01110", "nnnny");
        SectorDocument y = text(9, 0, 0, 19, 20, 21, 19, 'a', 21, 'b', 21, 'c').loaded();
        due("a new field has no separator", y, "011011000", "nnnnnnyny");
    }

    private static void theLatestOpenFieldIsMeant() {
        CHECK.sentence("Terms: FIELDS", "20 gives the field opened latest of those that are open its separator");
        SectorDocument x = text(9, 0, 0, 19, 19, 20, 20, 'a', 21, 'b', 20, 'c').loaded();
        due("20 twice", x, "012222111", "nnnnnnnny");
        SectorDocument y = text(7, 0, 0, 19, 19, 21, 20, 'a', 21, 'b').loaded();
        due("20 behind a closed one", y, "0121110", "nnnnyny");
    }

    private static void aFieldIsClosed() {
        CHECK.sentence("Terms: FIELDS", "21 closes that field");
        SectorDocument x = text(7, 0, 0, 19, 19, 21, 'a', 21, 'b', 'c').loaded();
        due("21 twice", x, "0121100", "nnnnnyy");
        SectorDocument y = text(6, 0, 0, 19, 20, 19, 21, 'a', 21).loaded();
        due("the outer one keeps its separator", y, "011211", "nnnnyn");
    }

    private static void marksWithoutAField() {
        CHECK.sentence("Terms: FIELDS", "with none open 20 and 21 do nothing");
        SectorDocument x = text(8, 0, 0, 21, 'a', 20, 'b', 19, 'c', 20, 'd').loaded();
        due("20 and 21 with none open", x, "00000111", "nynynnny");
        SectorDocument y = text(7, 0, 0, 21, 21, 21, 19, 'a', 20, 'b').loaded();
        due("21 three times", y, "0000111", "nnnnnny");
        SectorDocument z = text(6, 0, 0, 20, 19, 'a', 21, 21, 'b').loaded();
        due("20 before a field", z, "001100", "nnnnny");
        SectorDocument w = text(4, 0, 0, 18, 22, 0, 255).loaded();
        due("no marks", w, "0000", "yyyy");
    }

    private static void partsBeginAnew() {
        CHECK.sentence("Terms: FIELDS", "go through the units of one part from its beginning");
        SectorDocument x = text(2, 3, 3, 19, 'a', 'b', 21, 'c', 19, 'd', 20).loaded();
        due("three parts", x, "01000011", "nnynynnn");
        SectorDocument y = text(0, 2, 2, 19, 'a', 'b', 20).loaded();
        due("an empty part before", y, "0100", "nnyn");
        SectorDocument z = text(2, 0, 2, 19, 'a', 'b', 20).loaded();
        due("an empty part between", z, "0100", "nnyn");
        SectorDocument w = text(0, 0, 4, 19, 'a', 20, 'b').loaded();
        due("two empty parts before", w, "0111", "nnny");
        SectorDocument u = text(2, 0, 2, 19, 'a', 'b', 20).body(1, 4).loaded();
        due("with another bit in word 1 of the body", u, "0100", "nnyn");
        SectorDocument t = text(0, 0, 4, 19, 'a', 20, 'b').body(1, -4).loaded();
        due("with all other bits in it", t, "0111", "nnny");
        for (int first = 0; first <= 6; first++) {
            SectorDocument v = text(first, 6 - first, 0, 19, 19, 19, 19, 19, 19).loaded();
            for (int p = 0; p < 6; p++) {
                CHECK.due("depth(" + p + ") with a part of " + first, v.depth(p), p < first ? p : p - first);
            }
        }
    }

    private static void partsLeaveFieldsOpen() {
        CHECK.sentence("Terms: FIELDS", "with the fields that are open, none at first");
        SectorDocument x = text(3, 4, 0, 19, 20, 19, 'a', 19, 'b', 'c').loaded();
        due("fields left open", x, "0110011", "nnnynnn");
        due("and asked again", x, "0110011", "nnnynnn");
    }

    private static void wideMarks() {
        CHECK.sentence("Terms: FIELDS", "19 opens a field");
        SampleFile file = text(4, 0, 0, 0, 0, 0, 0).notes(7, 48);
        file.text(48, 19, 1, 19, 0, 20, 0, 'x', 0);
        due("wide units", file.loaded(), "0011", "ynny");
        file.text(48, 0, 19, 19, 0, 0, 20, 'x', 0);
        due("wide units with marks in their high bytes", file.loaded(), "0011", "ynnn");
    }

    private static void asManyAsPositions() {
        CHECK.sentence("Promise 16", "How many fields of its part are open");
        SampleFile file = LongText.of(400, 0, 0);
        for (int i = 0; i < 40; i++) {
            file.text(48 + i, 19);
        }
        SectorDocument x = file.loaded();
        CHECK.due("depth with all open", x.depth(399), 399);
        CHECK.due("depth at the first", x.depth(0), 0);
        CHECK.due("shown with all open", x.shown(399), false);
        file.text(48 + 39, 21);
        CHECK.due("depth with some closed", file.loaded().depth(399), 39 + 9 * 38);
    }
}
