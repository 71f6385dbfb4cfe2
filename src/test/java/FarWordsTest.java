/** Terms: whatever stands in the file, every call answers; here each word in turn is as far out as it goes. */
final class FarWordsTest {
    private static final Checker CHECK = new Checker();
    private static final int[] FAR = Far.out(-4, -3, -2, -1, 0, 1, 2, 3, 8, 12, 13, 24, 60, 191, 192, 255, 400, 401);

    public static void main(String[] args) {
        CHECK.sentence("Terms", "Whatever stands in the file, every call answers");
        SampleFile sample = new SampleFile();
        for (int place = 0; place < 192; place++) {
            for (int value : FAR) {
                compare("word " + place + " is " + value, new SampleFile().write(place, value), sample);
            }
        }
        for (int value : FAR) {
            SampleFile all = new SampleFile();
            for (int place = 0; place < 192; place++) {
                all.write(place, value);
            }
            compare("all words are " + value, all, sample);
        }
        for (int n = 1; n <= 24; n++) {
            compare(n + " sectors", new SampleFile().sectors(n), sample);
        }
        farArguments(new SectorDocument());
        farArguments(new SampleFile().opened());
        farArguments(new SampleFile().loaded());
        CHECK.finish();
    }

    private static void compare(String what, SampleFile file, SampleFile before) {
        int rule = new Comparison(CHECK, what, file.words, file.sectors, before).run();
        CHECK.due(what + ": a rule or 0", rule >= 0 && rule <= 20, true);
    }

    /** No argument that is far out is an entry, a word, a part, a position or a style. */
    private static void farArguments(SectorDocument x) {
        for (int far : Far.out()) {
            CHECK.due("entry(" + far + ")", x.entry(far, far), SectorDocument.NO_WORD);
            CHECK.due("find(" + far + ")", x.find(far, far), SectorDocument.NONE);
            CHECK.due("place(" + far + ")", x.place(far, far), SectorDocument.NONE);
            CHECK.due("word(" + far + ")", x.word(far, far), SectorDocument.NO_WORD);
            CHECK.due("length(" + far + ")", x.length(far), SectorDocument.NONE);
            CHECK.due("unit(" + far + ")", x.unit(far), SectorDocument.NONE);
            CHECK.due("bands(" + far + ")", x.bands(far), SectorDocument.NONE);
            CHECK.due("look(" + far + ")", x.look(far, far), SectorDocument.NO_WORD);
            CHECK.due("style(" + far + ")", x.style(far, far), SectorDocument.NO_WORD);
            CHECK.due("depth(" + far + ")", x.depth(far), SectorDocument.NONE);
            CHECK.due("shown(" + far + ")", x.shown(far), false);
            CHECK.due("put(" + far + ")", x.put(far, far, far, far, far), false);
            CHECK.due("resize(" + far + ")", x.resize(far), false);
        }
    }
}
