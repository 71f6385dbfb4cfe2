/** The example of README.md: a file of ten sectors with the text "Hello" in it. */
final class Example {
    private static final int DOC = 0x444F43;
    private static final int T0 = 0x5430;

    public static void main(String[] args) {
        SectorDocument x = new SectorDocument();
        System.out.println("open an empty file: " + x.open());
        putFile(x);
        System.out.println("open: " + x.open() + ", entries: " + x.entries());

        int body = x.find(0, DOC);
        System.out.println("DOC is entry " + body + " with " + x.entry(body, 3) + " words");
        System.out.println("its word 0 is " + x.word(body, 0) + ", at place " + x.place(body, 0));
        System.out.println("its word 16: " + (x.word(body, 16) == SectorDocument.NO_WORD ? "none" : "there"));
        System.out.println("an entry 'x': " + (x.find(0, 'x') == SectorDocument.NONE ? "none" : "there"));

        System.out.println("load: " + x.load() + ", positions: " + x.length(3));
        StringBuilder text = new StringBuilder();
        for (int p = 0; p < x.length(3); p++) {
            if (x.shown(p)) {
                text.append((char) x.unit(p));
            }
        }
        System.out.println("text: " + text);
        System.out.println("look of position 0: " + x.look(0, 0) + ", " + x.look(0, 1) + ", " + x.look(0, 2));
        System.out.println("unit 5: " + x.unit(5) + ", WIDTH of style 1: " + x.style(1, 1));

        x.put(0, 0, 2, 1, 2);
        System.out.println("unit 0 after put: " + x.unit(0) + ", open: " + x.open() + ", load: " + x.load());
    }

    private static void putFile(SectorDocument x) {
        x.resize(10);
        x.put(0, 0x0D0CF11E, 2, 1, 2);            // sector 0: the mark, two table sectors, 1 and 2
        x.put(1, 0, 3, -2, 0);                    // the directory begins in 3, there is no small table
        x.put(2, -1, -3, -3, 4);                  // sector 1: the table's entries 0 .. 7
        x.put(3, -2, 6, -2, 8);
        x.put(4, 9, -2, -1, -1);                  // sector 2: the table's entries 8, 9 and so on
        x.put(6, 0, 0x01000005, -2, 0);           // sectors 3, 4: the root, whose CHILD is entry 1
        x.put(7, DOC, 0x00000212, 5, 16);         // entry 1: a black stream from sector 5, LEFT is 2
        x.put(8, T0, 0x00000002, 7, 19);          // entry 2: a red stream from sector 7
        x.put(10, 0xA5EC, 0, 5, 0);               // sectors 5, 6: the body; part 0 has five positions
        x.put(11, 0, 0, 6, 6);                    // pieces at 0, six words; styles at 6
        x.put(12, 1, 10, 15, 0);                  // one style; paragraphs at 10, runs at 15
        x.put(13, 0x6C6C6548, 0x6F, 0, 0);        // bytes 48 .. 52: the text
        x.put(14, 2, 1, 0, 5);                    // sectors 7 .. 9: the notes; one piece of 0 .. 4
        x.put(15, (1 << 30) + 2 * 48, 0, -1, 8);  // its bytes from 48 on; the style's group is at 8
        x.put(16, 1, 30 << 8 | 2, 1, 0);          // the group: WIDTH becomes 30; one paragraph of 0 ..
        x.put(17, 5, 0, -1, 1);                   // .. 4 with style 0 and no group; one run
        x.put(18, 0, 5, -1, 0);                   // of 0 .. 4 without a group
    }
}
