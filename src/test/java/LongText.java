/** The sample with pieces, a paragraph and a run for 400 positions, in parts that a test tells. */
final class LongText {
    private LongText() { }

    /** Ten pieces of 40 units, each from byte 48 of the body on. */
    static SampleFile of(int first, int second, int third) {
        SampleFile file = new SampleFile().body(2, first, second, third).body(5, 0, 33).body(7, 40, 1, 42, 48);
        file.notes(0, 2, 10);
        for (int i = 0; i <= 10; i++) {
            file.notes(2 + i, 40 * i);
        }
        for (int i = 0; i < 10; i++) {
            file.notes(13 + i, SampleFile.NARROW + 96).notes(23 + i, 0);
        }
        return file.notes(40, -1, -1, 1, 0, 400, 0, -1, 0, 1, 0, 400, -1);
    }
}
