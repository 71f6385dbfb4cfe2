/** Promise 4, rules 4 to 7, and the terms DIRECTORY and LETTERS. */
final class TreeRulesTest {
    private static final Checker CHECK = new Checker();

    public static void main(String[] args) {
        theKindOfTheRoot();
        linksAreBelowE();
        linksNameDifferentEntries();
        whatIsALink();
        bitsNotLookedAt();
        properNames();
        kinds();
        streamsHaveNoChild();
        theEntriesOfRule5();
        fewerLettersComeFirst();
        theFirstLetterThatDiffers();
        lettersThatCountAsOthers();
        leftIsBeforeAndRightIsAfter();
        noTwoAreEqual();
        theFirstIsBlack();
        noRedBelowRed();
        asManyBlackOnAllWays();
        CHECK.finish();
    }

    private static SampleFile sample() {
        return new SampleFile();
    }

    private static void due(String what, SampleFile file, int rule) {
        SectorDocument x = file.closed();
        CHECK.due(what, x.open(), rule);
        CHECK.due(what + ": is open", x.entries() != SectorDocument.NONE, rule == 0);
    }

    private static void due(String what, TreeFile tree, int rule) {
        due(what, tree.file(), rule);
    }

    private static void theKindOfTheRoot() {
        CHECK.sentence("Rule 4", "entry 0 has the kind 5");
        for (int kind = 0; kind < 16; kind++) {
            due("a root of kind " + kind, sample().formOf(0, SampleFile.form(kind, false, 0, 0, 1)), kind == 5 ? 0 : 4);
        }
    }

    private static void linksAreBelowE() {
        CHECK.sentence("Rule 4", "no link is E or more");
        for (int link : new int[] {6, 7, 12, 127, 128, 254, 255}) {
            due("CHILD of the root is " + link, sample().formOf(0, SampleFile.form(5, false, 0, 0, link)), 4);
            for (int k = 2; k <= 5; k++) {
                int kind = k == 3 ? 1 : 2;
                due("LEFT of " + k + " is " + link, sample().formOf(k, SampleFile.form(kind, true, link, 0, 0)), 4);
                due("RIGHT of " + k + " is " + link, sample().formOf(k, SampleFile.form(kind, true, 0, link, 0)), 4);
                due("CHILD of " + k + " is " + link, sample().formOf(k, SampleFile.form(kind, true, 0, 0, link)), 4);
            }
        }
        due("E is 2, CHILD is 1", rootAnd(1), 0);
        due("E is 2, CHILD is 2", rootAnd(2), 4);
        due("E is 4, CHILD is 3", rootAnd(3).link(4, 6), 0);
        due("E is 4, CHILD is 4", rootAnd(4).link(4, 6), 4);
        due("E is 12, CHILD is 11", new TreeFile(11).stream(11, 'a', true, 0, 0), 0);
        due("E is 12, CHILD is 12", new TreeFile(12), 4);
        due("E is 12, LEFT is 11", new TreeFile(1).stream(1, 'b', true, 11, 0).stream(11, 'a', false, 0, 0), 0);
        due("E is 12, LEFT is 12", new TreeFile(1).stream(1, 'b', true, 12, 0), 4);
        due("E is 12, RIGHT is 12", new TreeFile(1).stream(1, 'b', true, 0, 12), 4);
        due("E is 12, CHILD of 1 is 12", new TreeFile(1).folder(1, 'b', true, 0, 0, 12), 4);
        due("E is 12, CHILD of 1 is 11", new TreeFile(1).folder(1, 'b', true, 0, 0, 11).stream(11, 'a', true, 0, 0), 0);
    }

    /** A directory in sector 4, and where CHILD leads to an empty stream "a". */
    private static SampleFile rootAnd(int child) {
        SampleFile file = SampleFile.rootAlone(3, 4);
        file.entry(child, 'a', SampleFile.form(2, true, 0, 0, 0), -2, 0);
        return file.formOf(0, SampleFile.form(5, false, 0, 0, child));
    }

    private static void linksNameDifferentEntries() {
        CHECK.sentence("Rule 4", "no two links name the same entry");
        due("LEFT and RIGHT are the same", sample().formOf(1, SampleFile.form(2, true, 2, 2, 0)), 4);
        due("LEFT is the entry itself", sample().formOf(2, SampleFile.form(2, false, 2, 0, 0)), 4);
        due("RIGHT is the entry itself", sample().formOf(2, SampleFile.form(2, false, 0, 2, 0)), 4);
        due("CHILD is the entry itself", sample().formOf(3, SampleFile.form(1, false, 0, 0, 3)), 4);
        due("LEFT is the root's CHILD", sample().formOf(2, SampleFile.form(2, false, 1, 0, 0)), 4);
        due("RIGHT leads back up", sample().formOf(5, SampleFile.form(2, false, 0, 3, 0)), 4);
        due("CHILD is the root's CHILD", sample().formOf(3, SampleFile.form(1, false, 0, 0, 1)), 4);
        due("CHILD is in another tree", sample().formOf(3, SampleFile.form(1, false, 0, 0, 2)), 4);
        due("LEFT and CHILD are the same", sample().formOf(3, SampleFile.form(1, false, 4, 0, 4)), 4);
        due("two CHILDs are the same", new TreeFile(1).folder(1, 'b', true, 2, 0, 3)
            .folder(2, 'a', false, 0, 0, 3).stream(3, 'c', true, 0, 0), 4);
        due("two CHILDs differ", new TreeFile(1).folder(1, 'b', true, 2, 0, 3)
            .folder(2, 'a', false, 0, 0, 4).stream(3, 'c', true, 0, 0).stream(4, 'c', true, 0, 0), 0);
    }

    private static void whatIsALink() {
        CHECK.sentence("Terms: DIRECTORY", "LINKS are the CHILD of entry 0");
        for (int other : new int[] {1, 2, 5, 6, 200, 255}) {
            due("LEFT of the root is " + other, sample().formOf(0, SampleFile.form(5, false, other, 0, 1)), 0);
            due("RIGHT of the root is " + other, sample().formOf(0, SampleFile.form(5, false, 0, other, 1)), 0);
        }
        CHECK.sentence("Terms: DIRECTORY", "LEFT, RIGHT and CHILD of every other entry that is REACHED");
        due("links of entries that are not reached", sample().withoutFolder().formOf(4, -1).formOf(5, -1), 0);
        due("links that name what is reached", sample().withoutFolder()
            .formOf(4, SampleFile.form(2, true, 1, 2, 3)).formOf(5, SampleFile.form(2, true, 4, 4, 4)), 0);
        due("the CHILD of a stream is a link", sample().formOf(2, SampleFile.form(2, false, 0, 0, 6)), 4);
        CHECK.sentence("Terms: DIRECTORY", "those that are 0 left out; entry 0 is reached");
        CHECK.due("a root alone", SampleFile.rootAlone(1, 4).opened().entries(), 1);
        CHECK.due("a root without CHILD",
            sample().formOf(0, SampleFile.form(5, false, 1, 2, 0)).opened().entries(), 1);
    }

    private static void bitsNotLookedAt() {
        CHECK.sentence("Terms: DIRECTORY", "numbers 0 .. 255; the other bits are not looked at");
        for (int bit = 5; bit < 8; bit++) {
            for (int k = 0; k < 6; k++) {
                SampleFile file = sample();
                int place = SampleFile.inChain(SampleFile.DIRECTORY, 4 * k + 1);
                due("bit " + bit + " of entry " + k, file.write(place, file.words[place] | 1 << bit), 0);
                CHECK.due("the kind with bit " + bit, file.opened().entry(k, 1), sample().opened().entry(k, 1));
            }
        }
        due("bit 4 of the root", sample().formOf(0, SampleFile.form(5, true, 0, 0, 1)), 0);
    }

    private static void properNames() {
        CHECK.sentence("Terms: LETTERS", "A name is PROPER when it has letters and each is 33 .. 126");
        due("no letters", sample().nameOf(2, 0), 5);
        for (int shift = 0; shift < 32; shift += 8) {
            for (int letter : new int[] {1, 31, 32, 33, 64, 126, 127, 128, 159, 160, 255}) {
                int name = 0x7A7A7A7A & ~(255 << shift) | letter << shift;
                due("letter " + letter + " at bit " + shift, sample().nameOf(2, name),
                    letter >= 33 && letter <= 126 ? 0 : 5);
            }
        }
        due("a name of 33 alone", sample().nameOf(3, 33), 0);
        due("a name of 126 alone", sample().nameOf(3, 126), 0);
        due("a name of 32 alone", sample().nameOf(3, 32), 5);
        due("a name of 127 alone", sample().nameOf(3, 127), 5);
        for (int name : Far.out(-1)) {
            due("name " + name, sample().nameOf(2, name), 5);
        }
        CHECK.sentence("Terms: LETTERS", "without the zeros before the first byte that is not 0");
        due("a zero behind a letter", sample().nameOf(2, 0x7A00), 5);
        due("a zero at last", sample().nameOf(2, 0x7A7A7A00), 5);
        due("a zero between letters", sample().nameOf(2, 0x7A007A), 5);
        due("a zero behind the first of four", sample().nameOf(2, 0x7A007A7A), 5);
        due("zeros before two letters", sample().nameOf(2, 0x7A7A), 0);
        due("zeros before three letters", sample().nameOf(2, 0x7A7A7A), 0);
        due("four letters", sample().nameOf(2, 0x7A7A7A7A), 0);
    }

    private static void kinds() {
        CHECK.sentence("Rule 5", "the kind 1 or 2");
        for (int kind = 0; kind < 16; kind++) {
            int rule = kind == 1 || kind == 2 ? 0 : 5;
            due("a last entry of kind " + kind, sample().formOf(2, SampleFile.form(kind, false, 0, 0, 0)), rule);
            due("a deep entry of kind " + kind, sample().formOf(5, SampleFile.form(kind, false, 0, 0, 0)), rule);
        }
    }

    private static void streamsHaveNoChild() {
        CHECK.sentence("Rule 5", "with kind 2 its CHILD is 0");
        due("a stream with a CHILD", sample().formOf(3, SampleFile.form(2, false, 0, 0, 4)), 5);
        due("a stream without", sample().formOf(3, SampleFile.form(2, false, 0, 0, 0)).startOf(3, -2).sizeOf(3, 0), 0);
        due("a folder with a CHILD", sample(), 0);
        due("a folder without", sample().withoutFolder(), 0);
    }

    private static void theEntriesOfRule5() {
        CHECK.sentence("Rule 5", "every reached entry but 0 has a proper name");
        for (int name : Far.out(0, -1, 32, 127, 0x4100)) {
            due("the root's name " + name, sample().nameOf(0, name), 0);
            due("a name " + name + " that is not reached", sample().withoutFolder().nameOf(4, name), 0);
            for (int k = 1; k < 6; k++) {
                due("the name " + name + " of " + k, sample().nameOf(k, name), 5);
            }
        }
        due("a kind that is not reached", sample().withoutFolder().formOf(5, 7), 0);
    }

    /** Entry 1 with this name, entry 2 to its right with that one, and no more. */
    private static SampleFile pair(int first, int second) {
        SampleFile file = sample().formOf(1, SampleFile.form(2, true, 0, 2, 0));
        return file.nameOf(1, first).nameOf(2, second);
    }

    private static void dueOrder(String first, String second, int sign) {
        int a = SampleFile.name(first);
        int b = SampleFile.name(second);
        due(second + " behind " + first, pair(a, b), sign < 0 ? 0 : 6);
        due(first + " behind " + second, pair(b, a), sign > 0 ? 0 : 6);
    }

    private static void fewerLettersComeFirst() {
        CHECK.sentence("Terms: LETTERS", "Of two names the one with fewer letters comes first");
        dueOrder("z", "AA", -1);
        dueOrder("zz", "AAA", -1);
        dueOrder("zzz", "AAAA", -1);
        dueOrder("z", "AAAA", -1);
        dueOrder("~", "!!", -1);
        dueOrder("A", "AA", -1);
        dueOrder("AAA", "AAAA", -1);
    }

    private static void theFirstLetterThatDiffers() {
        CHECK.sentence("Terms: LETTERS", "with as many the first letter in which they differ decides");
        dueOrder("A", "B", -1);
        dueOrder("AZ", "BA", -1);
        dueOrder("AA", "AB", -1);
        dueOrder("AZZ", "BAA", -1);
        dueOrder("AAZ", "ABA", -1);
        dueOrder("AAA", "AAB", -1);
        dueOrder("AZZZ", "BAAA", -1);
        dueOrder("AAZZ", "ABAA", -1);
        dueOrder("AAAZ", "AABA", -1);
        dueOrder("AAAA", "AAAB", -1);
        dueOrder("~AAA", "!AAA", 1);
    }

    private static int counted(int letter) {
        return letter >= 97 && letter <= 122 ? letter - 32 : letter;
    }

    private static void lettersThatCountAsOthers() {
        CHECK.sentence("Terms: LETTERS", "where 97 .. 122 count as 65 .. 90");
        for (int a = 33; a <= 126; a++) {
            for (int b = 33; b <= 126; b++) {
                int rule = counted(a) < counted(b) ? 0 : 6;
                CHECK.due("letter " + b + " behind " + a, pair(a, b).openAnswer(), rule);
            }
        }
        dueOrder("aB", "Ab", 0);
        dueOrder("`", "a", 1);
        dueOrder("`", "@", 1);
        dueOrder("{", "z", 1);
        dueOrder("{", "[", 1);
        dueOrder("[", "z", 1);
        CHECK.sentence("Terms: LETTERS", "Two names are EQUAL when neither comes first");
        dueOrder("abcd", "ABCD", 0);
        dueOrder("a~z", "A~Z", 0);
        dueOrder("a~z", "A^Z", 1);
        dueOrder("q", "q", 0);
    }

    private static void leftIsBeforeAndRightIsAfter() {
        CHECK.sentence("Rule 6",
            "what LEFT of an entry x leads to (it, and on by LEFT and RIGHT) comes before x by name");
        due("seven in order", TreeFile.ofSeven(), 0);
        due("1 behind 2", TreeFile.ofSeven().name(1, 'b').name(2, 'A'), 6);
        due("1 behind all", TreeFile.ofSeven().name(1, 'Z'), 6);
        due("3 behind 4", TreeFile.ofSeven().name(3, 'D').name(4, 'C'), 6);
        due("3 between 4 and 5", TreeFile.ofSeven().name(3, 'E').name(5, 'e' + 1).name(6, 'g').name(7, 'H'), 6);
        due("3 behind all", TreeFile.ofSeven().name(3, 'Z'), 6);
        due("2 behind 4", TreeFile.ofSeven().name(2, 'Z').name(3, SampleFile.name("ZZ")), 6);
        due("5 behind 6", TreeFile.ofSeven().name(5, 'F').name(6, 'E'), 6);
        CHECK.sentence("Rule 6", "and what RIGHT leads to comes after it");
        due("7 before 6", TreeFile.ofSeven().name(7, 'F').name(6, 'G'), 6);
        due("7 before all", TreeFile.ofSeven().name(7, '!'), 6);
        due("5 before 4", TreeFile.ofSeven().name(5, 'D').name(4, 'E'), 6);
        due("5 before all", TreeFile.ofSeven().name(5, '!'), 6);
        due("6 before 4", TreeFile.ofSeven().name(6, '!').name(5, ' ' + 1), 6);
        due("3 before 2", TreeFile.ofSeven().name(3, 'B').name(2, 'C'), 6);
        CHECK.sentence("Rule 6", "in every tree");
        for (int a = 1; a <= 7; a++) {
            for (int b = 1; b < a; b++) {
                due("names of " + a + " and " + b + " changed",
                    TreeFile.ofSeven().name(a, 'A' + b - 1).name(b, 'A' + a - 1), 6);
            }
        }
        due("in a folder", sample().nameOf(5, SampleFile.name("XX")), 6);
        due("in a folder of a folder", new TreeFile(1).folder(1, 'a', true, 0, 0, 2)
            .folder(2, 'a', true, 0, 0, 3).stream(3, 'c', true, 4, 0).stream(4, 'd', false, 0, 0), 6);
        due("in order there", new TreeFile(1).folder(1, 'a', true, 0, 0, 2)
            .folder(2, 'a', true, 0, 0, 3).stream(3, 'c', true, 4, 0).stream(4, 'b', false, 0, 0), 0);
    }

    private static void noTwoAreEqual() {
        CHECK.sentence("Rule 6", "no two are equal");
        for (int a = 1; a <= 7; a++) {
            for (int b = 1; b <= 7; b++) {
                if (a != b) {
                    due(a + " as " + b, TreeFile.ofSeven().name(a, 'A' + b - 1), 6);
                    due(a + " equal to " + b, TreeFile.ofSeven().name(a, 'a' + b - 1), 6);
                }
            }
        }
        due("equal in two folders", sample().nameOf(5, SampleFile.DOC), 0);
        due("equal to the folder", new TreeFile(1).folder(1, 'a', true, 0, 0, 2).stream(2, 'a', true, 0, 0), 0);
        due("equal to the root", new TreeFile(1).name(0, 'a').stream(1, 'a', true, 0, 0), 0);
    }

    private static void theFirstIsBlack() {
        CHECK.sentence("Rule 7", "in every tree the first entry (the CHILD) is black");
        due("one entry, red", new TreeFile(1).stream(1, 'a', false, 0, 0), 7);
        due("one entry, black", new TreeFile(1).stream(1, 'a', true, 0, 0), 0);
        due("red over black ones", TreeFile.ofSeven().colour(4, false), 7);
        due("red in a folder", sample().formOf(4, SampleFile.form(2, false, 0, 0, 0)), 7);
        due("red in a folder of a folder", new TreeFile(1).folder(1, 'a', true, 0, 0, 2)
            .folder(2, 'a', true, 0, 0, 3).stream(3, 'a', false, 0, 0), 7);
        due("red below a black root", new TreeFile(1).stream(1, 'a', false, 0, 0).colour(0, true), 7);
        due("black below a black root", new TreeFile(1).stream(1, 'a', true, 0, 0).colour(0, true), 0);
        due("red in a black folder below a black root", new TreeFile(1).colour(0, true)
            .folder(1, 'a', true, 0, 0, 2).stream(2, 'a', false, 0, 0), 7);
        due("a red folder with a black first entry", sample(), 0);
        due("a red root", sample().formOf(0, SampleFile.form(5, false, 0, 0, 1)), 0);
    }

    private static void noRedBelowRed() {
        CHECK.sentence("Rule 7", "no red entry has a red LEFT or RIGHT");
        TreeFile twoRed = new TreeFile(2).stream(2, 'b', true, 1, 3);
        twoRed.stream(1, 'a', false, 0, 0).stream(3, 'd', false, 0, 0);
        due("two red below black", twoRed, 0);
        due("red LEFT of red", twoRed.stream(3, 'd', false, 4, 0).stream(4, 'c', false, 0, 0), 7);
        due("red RIGHT of red", twoRed.stream(3, 'd', false, 0, 4).stream(4, 'e', false, 0, 0), 7);
        due("red RIGHT of red, at left",
            twoRed.stream(3, 'd', false, 0, 0).stream(1, '0', false, 0, 4).stream(4, 'a', false, 0, 0), 7);
        due("red LEFT of red, at left", twoRed.stream(1, 'a', false, 4, 0).stream(4, '0', false, 0, 0), 7);
        TreeFile below = TreeFile.ofSeven().colour(2, false).colour(6, false);
        due("black below red", below, 0);
        for (int k = 1; k <= 7; k += 2) {
            due("red " + k + " below red", below.colour(k, false), 7);
            below.colour(k, true);
        }
        due("a red first of a red folder's tree", sample().formOf(4, SampleFile.form(2, false, 0, 5, 0)), 7);
        due("a red CHILD's LEFT below a red folder", new TreeFile(2).stream(2, 'b', true, 1, 0)
            .folder(1, 'a', false, 0, 0, 3).stream(3, 'b', true, 4, 0).stream(4, 'a', false, 0, 0), 0);
    }

    private static void asManyBlackOnAllWays() {
        CHECK.sentence("Rule 7", "on all ways from the first entry on by LEFT and RIGHT to where there is none, "
            + "there are as many black entries");
        due("black at left alone", new TreeFile(2).stream(2, 'b', true, 1, 0).stream(1, 'a', true, 0, 0), 7);
        due("black at right alone", new TreeFile(2).stream(2, 'b', true, 0, 3).stream(3, 'c', true, 0, 0), 7);
        due("red at left alone", new TreeFile(2).stream(2, 'b', true, 1, 0).stream(1, 'a', false, 0, 0), 0);
        due("red at right alone", new TreeFile(2).stream(2, 'b', true, 0, 3).stream(3, 'c', false, 0, 0), 0);
        due("one side more black", sample().formOf(2, SampleFile.form(2, true, 0, 0, 0)), 7);
        for (int k = 1; k <= 7; k++) {
            due(k + " of seven is red", TreeFile.ofSeven().colour(k, false), 7);
        }
        for (int bits = 0; bits < 128; bits++) {
            TreeFile tree = TreeFile.ofSeven();
            for (int k = 1; k <= 7; k++) {
                tree.colour(k, (bits >> k - 1 & 1) != 0);
            }
            due("seven with the colours " + bits, tree, sevenHold(bits) ? 0 : 7);
        }
        due("the way that ends at a red one with one below", new TreeFile(2).stream(2, 'c', true, 1, 4)
            .stream(4, 'd', true, 0, 0).stream(1, 'a', false, 0, 3).stream(3, 'b', true, 0, 0), 7);
        due("the colour of the root does not count", TreeFile.ofSeven().colour(0, true), 0);
        due("trees have heights of their own", new TreeFile(2).stream(2, 'b', true, 1, 3)
            .stream(1, 'a', true, 0, 0).folder(3, 'c', true, 0, 0, 4).stream(4, 'd', true, 0, 0), 0);
        due("a tree below that does not hold", new TreeFile(2).stream(2, 'b', true, 1, 3)
            .stream(1, 'a', true, 0, 0).folder(3, 'c', true, 0, 0, 4).stream(4, 'd', true, 5, 0)
            .stream(5, '0', true, 0, 0), 7);
    }

    /** Bit k - 1 is set when entry k of the seven is black. */
    private static boolean sevenHold(int bits) {
        boolean[] black = new boolean[8];
        for (int k = 1; k <= 7; k++) {
            black[k] = (bits >> k - 1 & 1) != 0;
        }
        boolean leftHolds = black[2] || black[1] && black[3];
        boolean rightHolds = black[6] || black[5] && black[7];
        int[] ways = new int[4];
        for (int leaf = 1; leaf <= 7; leaf += 2) {
            int middle = leaf < 4 ? 2 : 6;
            ways[leaf / 2] = (black[middle] ? 1 : 0) + (black[leaf] ? 1 : 0);
        }
        boolean level = ways[0] == ways[1] && ways[1] == ways[2] && ways[2] == ways[3];
        return black[4] && leftHolds && rightHolds && level;
    }
}
