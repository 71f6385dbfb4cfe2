/** A directory of six sectors, 12 entries, whose trees a test tells: all streams in it are empty. */
final class TreeFile {
    private static final int[] SECTORS = {4, 6, 5, 21, 22, 23};
    private final SampleFile file;

    /** The root's CHILD. */
    TreeFile(int child) {
        file = SampleFile.rootAlone(3, SECTORS[0]).link(SECTORS);
        for (int k = 1; k < 12; k++) {
            words(k, 0, -1, -1, -1);
        }
        words(0, 0, SampleFile.form(5, false, 0, 0, child), -2, 0);
    }

    /** Seven entries, 4 over 2 and 6, these over 1, 3, 5 and 7: by name "A" to "G", all black. */
    static TreeFile ofSeven() {
        TreeFile tree = new TreeFile(4).stream(4, 'D', true, 2, 6);
        tree.stream(2, 'B', true, 1, 3).stream(6, 'F', true, 5, 7);
        for (int k = 1; k <= 7; k += 2) {
            tree.stream(k, 'A' + k - 1, true, 0, 0);
        }
        return tree;
    }

    TreeFile stream(int k, int name, boolean black, int left, int right) {
        return words(k, name, SampleFile.form(2, black, left, right, 0), -2, 0);
    }

    TreeFile folder(int k, int name, boolean black, int left, int right, int child) {
        return words(k, name, SampleFile.form(1, black, left, right, child), -2, 0);
    }

    TreeFile name(int k, int name) {
        file.write(SampleFile.inChain(SECTORS, 4 * k), name);
        return this;
    }

    TreeFile colour(int k, boolean black) {
        int place = SampleFile.inChain(SECTORS, 4 * k + 1);
        file.write(place, file.words[place] & ~16 | (black ? 16 : 0));
        return this;
    }

    SampleFile file() {
        return file;
    }

    private TreeFile words(int k, int... four) {
        file.write(SampleFile.inChain(SECTORS, 4 * k), four);
        return this;
    }
}
