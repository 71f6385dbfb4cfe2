/**
 * A sound file with a sound document, which the tests change before they read it.
 *
 * <p>Sectors: 1 .. 3 table, 4 6 5 directory, 7 8 base, 9 small table, 10 12 11 body, 13 .. 20 notes,
 * 21 .. 23 free. Entries: 0 root with 1 "T0" (notes), 2 "DOC" (body), 3 "b" (folder); in 3 are
 * 4 "xy" (small sectors 2, 0) and 5 "abc" (small sector 4).
 *
 * <p>Text: 10 positions in parts of 5, 3 and 2; piece 0 has 6 narrow units from byte 48 on, piece 1
 * has 4 wide ones from byte 56 on.
 */
final class SampleFile {
    static final int MARK = 0x0D0CF11E;
    static final int NARROW = 1 << 30;
    static final int DOC = 0x444F43;
    static final int T0 = 0x5430;
    static final int T1 = 0x5431;

    static final int[] DIRECTORY = {4, 6, 5};
    static final int[] BASE = {7, 8};
    static final int SMALL_TABLE = 9;
    static final int[] BODY = {10, 12, 11};
    static final int[] NOTES = {13, 14, 15, 16, 17, 18, 19, 20};

    static final int BODY_SIZE = 22;
    static final int NOTES_SIZE = 60;

    static final int STYLES = 12;
    static final int PARAGRAPHS = 18;
    static final int RUNS = 26;
    static final int GROUPS = 32;

    final int[] words = new int[192];
    int sectors = 24;

    SampleFile() {
        fillHeaderAndTable();
        fillDirectory();
        fillSmallSectors();
        fillBody();
        fillNotes();
    }

    private void fillHeaderAndTable() {
        write(0, MARK, 3, 1, 2, 3, DIRECTORY[0], SMALL_TABLE, 99);
        for (int e = 0; e < 24; e++) {
            table(e, -1);
        }
        for (int e = 1; e <= 3; e++) {
            table(e, -3);
        }
        link(DIRECTORY);
        link(BASE);
        link(SMALL_TABLE);
        link(BODY);
        link(NOTES);
    }

    private void fillDirectory() {
        entry(0, 0, form(5, false, 0, 0, 1), BASE[0], 13);
        entry(1, T0, form(2, true, 3, 2, 0), NOTES[0], NOTES_SIZE);
        entry(2, DOC, form(2, false, 0, 0, 0), BODY[0], BODY_SIZE);
        entry(3, 'b', form(1, false, 0, 0, 4), 77, -5);
        entry(4, name("xy"), form(2, true, 0, 5, 0), 2, 3);
        entry(5, name("abc"), form(2, false, 0, 0, 0), 4, 2);
    }

    private void fillSmallSectors() {
        for (int i = 0; i < 16; i++) {
            base(i, 1000 + i);
        }
        smallTable(-1, -1, -1, -1, -1, -1, -1, -1);
        smallEntry(2, 0);
        smallEntry(0, -2);
        smallEntry(4, -2);
    }

    private void fillBody() {
        body(0, 0xA5EC, 0, 5, 3, 2, 0, 12, STYLES, 3, PARAGRAPHS, RUNS, 0);
        text(48, 'H', 'i', '!', 130, 159, 200, 0, 0);
        text(56, 0x3A, 0x26, 'A', 0, 130, 0, 0xFF, 0xFF);
    }

    private void fillNotes() {
        notes(0, 1, 1, modifier(1, 0, 1));
        notes(3, 2, 2, 0, 6, 10, NARROW + 96, 56, 0, 1);
        notes(STYLES, -1, GROUPS, 0, GROUPS + 4, 1, -1);
        notes(PARAGRAPHS, 2, 0, 4, 10, 0, 2, -1, GROUPS + 7);
        notes(RUNS, 1, 0, 10, GROUPS + 9, -1, -1);
        notes(GROUPS, 3, modifier(2, 0, 30), modifier(5, 1, 0), 777);
        notes(GROUPS + 4, 2, modifier(1, 0, 1), modifier(3, 0, -5));
        notes(GROUPS + 7, 1, modifier(3, 0, 10));
        notes(GROUPS + 9, 1, modifier(1, 0, 129));
    }

    /** A directory of a root alone in sector s, told by a table of so many sectors; N is 24. */
    static SampleFile rootAlone(int tables, int s) {
        SampleFile file = new SampleFile().header(1, tables).header(5, s).header(6, -2).link(s);
        return file.write(8 * s, 0, form(5, false, 0, 0, 0), -2, 0);
    }

    /** Entries 4 and 5 are not reached, so that nothing is in small sectors. */
    SampleFile withoutFolder() {
        return formOf(3, form(1, false, 0, 0, 0));
    }

    SampleFile copySector(int from, int to) {
        System.arraycopy(words, 8 * from, words, 8 * to, 8);
        return this;
    }

    static int form(int kind, boolean black, int left, int right, int child) {
        return kind | (black ? 16 : 0) | left << 8 | right << 16 | child << 24;
    }

    static int name(String letters) {
        int name = 0;
        for (int i = 0; i < letters.length(); i++) {
            name = name << 8 | letters.charAt(i);
        }
        return name;
    }

    static int modifier(int number, int kind, int operand) {
        return number | kind << 5 | operand << 8;
    }

    SampleFile write(int place, int... values) {
        System.arraycopy(values, 0, words, place, values.length);
        return this;
    }

    SampleFile header(int i, int value) {
        return write(i, value);
    }

    SampleFile table(int e, int value) {
        return write(8 * (1 + e / 8) + e % 8, value);
    }

    SampleFile link(int... chain) {
        for (int i = 0; i < chain.length; i++) {
            table(chain[i], i + 1 < chain.length ? chain[i + 1] : -2);
        }
        return this;
    }

    SampleFile directory(int i, int value) {
        return write(inChain(DIRECTORY, i), value);
    }

    SampleFile entry(int k, int name, int form, int start, int size) {
        directory(4 * k, name);
        directory(4 * k + 1, form);
        directory(4 * k + 2, start);
        return directory(4 * k + 3, size);
    }

    SampleFile nameOf(int k, int value) {
        return directory(4 * k, value);
    }

    SampleFile formOf(int k, int value) {
        return directory(4 * k + 1, value);
    }

    SampleFile startOf(int k, int value) {
        return directory(4 * k + 2, value);
    }

    SampleFile sizeOf(int k, int value) {
        return directory(4 * k + 3, value);
    }

    SampleFile base(int i, int value) {
        return write(inChain(BASE, i), value);
    }

    SampleFile smallTable(int... values) {
        return write(8 * SMALL_TABLE, values);
    }

    SampleFile smallEntry(int q, int value) {
        return write(8 * SMALL_TABLE + q, value);
    }

    SampleFile body(int place, int... values) {
        for (int i = 0; i < values.length; i++) {
            write(inChain(BODY, place + i), values[i]);
        }
        return this;
    }

    SampleFile text(int at, int... bytes) {
        for (int i = 0; i < bytes.length; i++) {
            int place = inChain(BODY, (at + i) / 4);
            int shift = 8 * ((at + i) % 4);
            words[place] = words[place] & ~(255 << shift) | bytes[i] << shift;
        }
        return this;
    }

    SampleFile notes(int place, int... values) {
        for (int i = 0; i < values.length; i++) {
            write(inChain(NOTES, place + i), values[i]);
        }
        return this;
    }

    static int inChain(int[] chain, int i) {
        return 8 * chain[i / 8] + i % 8;
    }

    SampleFile sectors(int n) {
        sectors = n;
        return this;
    }

    void putInto(SectorDocument x) {
        x.resize(sectors);
        for (int at = 0; at < 48; at++) {
            x.put(at, words[4 * at], words[4 * at + 1], words[4 * at + 2], words[4 * at + 3]);
        }
    }

    SectorDocument closed() {
        SectorDocument x = new SectorDocument();
        putInto(x);
        return x;
    }

    SectorDocument opened() {
        SectorDocument x = closed();
        int answer = x.open();
        if (answer != 0) {
            throw new IllegalStateException("the file is refused by rule " + answer);
        }
        return x;
    }

    SectorDocument loaded() {
        SectorDocument x = opened();
        int answer = x.load();
        if (answer != 0) {
            throw new IllegalStateException("the document is refused by rule " + answer);
        }
        return x;
    }

    int openAnswer() {
        return closed().open();
    }

    int loadAnswer() {
        return opened().load();
    }
}
