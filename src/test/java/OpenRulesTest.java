/** Promise 4: each of the rules 1 to 10. */
final class OpenRulesTest {
    private static final Checker CHECK = new Checker();

    public static void main(String[] args) {
        due("the sample", new SampleFile(), 0);
        rule1();
        rule2();
        rule3();
        rule4();
        rule5();
        rule6();
        rule7();
        rule8();
        rule9();
        rule10();
        theFirstBrokenRuleIsTold();
        openCloses();
        CHECK.finish();
    }

    private static SampleFile sample() {
        return new SampleFile();
    }

    private static void due(String what, SampleFile file, int rule) {
        SectorDocument x = file.closed();
        CHECK.due(what, x.open(), rule);
        CHECK.due(what + ": is open", x.entries() != -1, rule == 0);
    }

    private static void rule1() {
        due("one sector", sample().sectors(1), 1);
        due("two sectors are enough for a table", lowTable().sectors(2), 3);
        due("another mark", sample().header(0, SampleFile.MARK + 1), 1);
        due("F is 0", sample().header(1, 0), 1);
        due("F is 4", sample().header(1, 4), 1);
        due("F is -1", sample().header(1, -1), 1);
        due("F is huge", sample().header(1, 1 << 29), 1);
        due("header word 7", sample().header(7, -12345), 0);
    }

    private static void rule2() {
        due("a table sector 0", sample().header(3, 0), 2);
        due("a first table sector 0", sample().header(2, 0), 2);
        due("a first table sector N", sample().header(2, 24), 2);
        due("a table sector N", sample().header(3, 24), 2);
        due("a table sector below 0", sample().header(3, -3), 2);
        due("a huge table sector", sample().header(3, (1 << 29) + 2), 2);
        due("a table sector twice", sample().header(4, 2), 2);
        due("the first table sector twice", sample().header(3, 1), 2);
        due("the first table sector at last again", sample().header(4, 1), 2);
        due("two sectors, three named", sample().sectors(3), 2);
        due("a table sector is -2", sample().table(2, -2), 2);
        due("a table sector is -1", sample().table(3, -1), 2);
        due("a table sector without an entry", lowTable().header(2, 8).write(65, -3), 2);
        due("one table sector", lowTable(), 0);
        due("what F leaves over is not looked at", lowTable().header(3, -77).header(4, 1), 0);
        due("the table in sector 7", lowTable().header(2, 7).write(56, -1, -1, -1, -1, -2, -1, -1, -3), 0);
    }

    /** A table of one sector, a directory in sector 4, and nothing more. */
    private static SampleFile lowTable() {
        SampleFile file = sample();
        file.header(1, 1).header(6, -2).link(4);
        file.entry(0, 0, SampleFile.form(5, false, 0, 0, 0), -2, 0);
        return file;
    }

    private static void rule3() {
        due("no directory", sample().header(5, -2), 3);
        due("a directory at 0", sample().header(5, 0), 3);
        due("a directory at -1", sample().header(5, -1), 3);
        due("a directory at N", sample().header(5, 24), 3);
        due("a directory in the table", sample().header(5, 2), 3);
        due("a directory that comes back", sample().table(5, 4), 3);
        due("a directory that stays", sample().table(5, 5), 3);
        due("a directory that ends in -1", sample().table(5, -1), 3);
        due("a directory that ends in sector 0", sample().table(5, 0), 3);
        due("a member without an entry", lowTable().table(4, 8), 3);
        due("a member outside the file", lowTable().sectors(5).link(4, 5), 3);
        due("a member inside the file", lowTable().sectors(6).link(4, 5), 0);
        due("six members", sample().link(4, 6, 5, 21, 22, 23), 0);
        due("seven members", sevenMembers(), 3);
    }

    private static SampleFile sevenMembers() {
        SampleFile file = sample().sizeOf(1, 56).link(13, 14, 15, 16, 17, 18, 19);
        return file.link(4, 6, 5, 21, 22, 23, 20);
    }

    private static void rule4() {
        due("a root of kind 1", sample().formOf(0, SampleFile.form(1, false, 0, 0, 1)), 4);
        due("a root of kind 13", sample().formOf(0, SampleFile.form(13, false, 0, 0, 1)), 4);
        due("other bits of the root", sample().formOf(0, SampleFile.form(5 | 0xE0, true, 200, 1, 1)), 0);
        due("CHILD is E", sample().formOf(0, SampleFile.form(5, false, 0, 0, 6)), 4);
        due("CHILD is 255", sample().formOf(0, SampleFile.form(5, false, 0, 0, 255)), 4);
        due("LEFT is E", sample().formOf(2, SampleFile.form(2, false, 6, 0, 0)), 4);
        due("RIGHT is 128", sample().formOf(2, SampleFile.form(2, false, 0, 128, 0)), 4);
        due("the CHILD of a stream is E", sample().formOf(2, SampleFile.form(2, false, 0, 0, 6)), 4);
        due("LEFT is the entry itself", sample().formOf(2, SampleFile.form(2, false, 2, 0, 0)), 4);
        due("LEFT and RIGHT are the same", sample().formOf(1, SampleFile.form(2, true, 2, 2, 0)), 4);
        due("RIGHT leads back up", sample().formOf(5, SampleFile.form(2, false, 0, 3, 0)), 4);
        due("CHILD is in another tree", sample().formOf(3, SampleFile.form(1, false, 0, 0, 2)), 4);
        due("an entry that is not reached", withoutFolder().formOf(5, -1), 0);
    }

    /** Entries 4 and 5 are not reached. */
    private static SampleFile withoutFolder() {
        return sample().formOf(3, SampleFile.form(1, false, 0, 0, 0));
    }

    private static void rule5() {
        due("no letters", sample().nameOf(2, 0), 5);
        due("no letters of the first", sample().nameOf(1, 0), 5);
        due("a letter 32", sample().nameOf(2, 32), 5);
        due("a letter 127", sample().nameOf(2, 0x44447F), 5);
        due("a letter 0 behind others", sample().nameOf(2, 0x444F00), 5);
        due("a letter 0 between others", sample().nameOf(2, 0x440043), 5);
        due("a letter over 127", sample().nameOf(2, 0x80444444), 5);
        due("letters 33 and 126", sample().nameOf(2, 0x21217E7E), 0);
        due("kind 0", sample().formOf(2, SampleFile.form(0, false, 0, 0, 0)), 5);
        due("kind 3", sample().formOf(2, SampleFile.form(3, false, 0, 0, 0)), 5);
        due("kind 5 below the root", sample().formOf(2, SampleFile.form(5, false, 0, 0, 0)), 5);
        due("kind 10", sample().formOf(2, SampleFile.form(10, false, 0, 0, 0)), 5);
        due("a stream with a CHILD", sample().formOf(3, SampleFile.form(2, false, 0, 0, 4)), 5);
        due("other bits of a stream", sample().formOf(2, SampleFile.form(2 | 0xE0, false, 0, 0, 0)), 0);
        due("the root's name", sample().nameOf(0, -1), 0);
        due("a name that is not reached", withoutFolder().nameOf(4, 0), 0);
        due("a deep name", sample().nameOf(5, 7), 5);
    }

    private static void rule6() {
        due("LEFT is longer", sample().nameOf(3, SampleFile.name("ABC")), 6);
        due("LEFT is equal", sample().nameOf(3, SampleFile.name("t0")), 6);
        due("RIGHT is shorter", sample().nameOf(2, 'z'), 6);
        due("RIGHT is equal", sample().nameOf(2, SampleFile.name("t0")), 6);
        due("RIGHT is before by its last letter", sample().nameOf(2, SampleFile.name("T/")), 6);
        due("RIGHT is behind by its last letter", sample().nameOf(2, SampleFile.name("t1")), 0);
        due("RIGHT is before when folded", sample().nameOf(2, SampleFile.name("s~")), 6);
        due("LEFT is before when folded", sample().nameOf(3, SampleFile.name("sz")), 0);
        due("[ is behind Z", lettersAround('Z', '['), 0);
        due("[ is behind z", lettersAround('z', '['), 0);
        due("` is behind z", lettersAround('z', '`'), 0);
        due("{ is behind z", lettersAround('z', '{'), 0);
        due("@ is not behind a", lettersAround('a', '@'), 6);
        due("A is not behind a", lettersAround('a', 'A'), 6);
        due("in a folder", sample().nameOf(5, SampleFile.name("XX")), 6);
        due("equal in two folders", sample().nameOf(5, SampleFile.name("DOC")), 0);
        due("below LEFT, over the first", threeLevels("B", "D", "C"), 0);
        due("below LEFT, behind the first", threeLevels("B", "D", "E"), 6);
        due("below LEFT, equal to the first", threeLevels("B", "D", "d"), 6);
        due("below RIGHT, between", mirroredLevels("B", "F", "E"), 0);
        due("below RIGHT, before the first", mirroredLevels("E", "F", "B"), 6);
    }

    private static SampleFile lettersAround(int first, int second) {
        SampleFile file = withoutFolder();
        return file.nameOf(3, '!').nameOf(1, first).nameOf(2, second);
    }

    /** Entry 1 has LEFT 3, whose RIGHT is 4: a red entry below a black one. */
    private static SampleFile threeLevels(String left, String first, String inner) {
        SampleFile file = sample().nameOf(3, SampleFile.name(left)).nameOf(1, SampleFile.name(first));
        file.formOf(3, SampleFile.form(1, true, 0, 4, 0));
        file.formOf(2, SampleFile.form(2, true, 0, 0, 0));
        return file.nameOf(4, SampleFile.name(inner)).formOf(4, SampleFile.form(2, false, 0, 0, 0));
    }

    private static SampleFile mirroredLevels(String first, String right, String inner) {
        SampleFile file = sample().nameOf(3, '!').nameOf(1, SampleFile.name(first));
        file.formOf(3, SampleFile.form(1, true, 0, 0, 0));
        file.nameOf(2, SampleFile.name(right)).formOf(2, SampleFile.form(2, true, 4, 0, 0));
        return file.nameOf(4, SampleFile.name(inner)).formOf(4, SampleFile.form(2, false, 0, 0, 0));
    }

    private static void rule7() {
        due("a red first entry", sample().formOf(1, SampleFile.form(2, false, 3, 2, 0)), 7);
        due("a red first entry over black ones", bothBlack().formOf(1, SampleFile.form(2, false, 3, 2, 0)), 7);
        due("a red first entry in a folder", sample().formOf(4, SampleFile.form(2, false, 0, 5, 0)), 7);
        due("one side more black", sample().formOf(2, SampleFile.form(2, true, 0, 0, 0)), 7);
        due("both sides black", bothBlack(), 0);
        due("a black entry on one side alone", sample().formOf(5, SampleFile.form(2, true, 0, 0, 0)), 7);
        due("red below red", redBelowRed(), 7);
        due("red below black", threeLevels("B", "D", "C"), 0);
        due("black below black, too deep", threeLevels("B", "D", "C")
            .formOf(4, SampleFile.form(2, true, 0, 0, 0)), 7);
        due("the trees have heights of their own", bothBlack(), 0);
        due("a red root", sample().formOf(0, SampleFile.form(5, false, 0, 0, 1)), 0);
    }

    private static SampleFile bothBlack() {
        SampleFile file = sample().formOf(2, SampleFile.form(2, true, 0, 0, 0));
        return file.formOf(3, SampleFile.form(1, true, 0, 0, 4));
    }

    private static SampleFile redBelowRed() {
        SampleFile file = sample().nameOf(3, 'B').nameOf(1, 'D');
        file.formOf(3, SampleFile.form(1, false, 0, 4, 0));
        return file.nameOf(4, 'C').formOf(4, SampleFile.form(2, false, 0, 0, 0));
    }

    private static void rule8() {
        due("a base that comes back", sample().table(8, 7), 8);
        due("a base at 0", sample().startOf(0, 0), 8);
        due("a base at N", sample().startOf(0, 24), 8);
        due("a base in the table", sample().startOf(0, 1), 8);
        due("a small table at -1", sample().header(6, -1), 8);
        due("a small table that comes back", sample().table(9, 9), 8);
        due("a base size below 0", sample().sizeOf(0, -1), 8);
        due("a base size of all words", sample().sizeOf(0, 16), 0);
        due("a base size over the words", sample().sizeOf(0, 17), 8);
        due("a huge base size", sample().sizeOf(0, Integer.MAX_VALUE), 8);
        due("no base", withoutFolder().startOf(0, -2).sizeOf(0, 0), 0);
        due("no base, but a size", withoutFolder().startOf(0, -2).sizeOf(0, 1), 8);
        due("no small table", withoutFolder().header(6, -2), 0);
        due("a base longer than its size", withoutFolder().sizeOf(0, 0), 0);
    }

    private static void rule9() {
        due("a size below 0", sample().sizeOf(2, -1), 9);
        due("a huge size", sample().sizeOf(2, Integer.MAX_VALUE), 9);
        due("a chain too short", sample().sizeOf(2, 25), 9);
        due("a chain just filled", sample().sizeOf(2, 24), 0);
        due("one word in the last sector", sample().sizeOf(2, 17), 0);
        due("a chain too long", sample().sizeOf(2, 16), 9);
        due("16 words", sample().sizeOf(2, 16).link(10, 12), 0);
        due("15 words are small", sample().sizeOf(2, 15).link(10, 12), 9);
        due("a chain that comes back", sample().table(11, 10), 9);
        due("a chain that ends in the table", sample().table(11, 3), 9);
        due("a start at 0", sample().startOf(2, 0), 9);
        due("a large stream without a chain", sample().startOf(2, -2), 9);
        due("three words, one small sector", sample().smallEntry(2, -2), 9);
        due("three words, three small sectors", sample().smallEntry(0, 1).smallEntry(1, -2), 9);
        due("four words", sample().sizeOf(4, 4), 0);
        due("two words, two small sectors", sample().sizeOf(4, 2), 9);
        due("a small chain that comes back", sample().smallEntry(0, 2), 9);
        due("a small chain that ends in -1", sample().smallEntry(0, -1), 9);
        due("no words", sample().sizeOf(5, 0).startOf(5, -2), 0);
        due("no words, but a chain", sample().sizeOf(5, 0), 9);
        due("words, but no chain", sample().startOf(5, -2), 9);
        due("the last small sector", sample().startOf(5, 5).smallEntry(5, -2), 0);
        due("behind the last small sector", sample().startOf(5, 6).smallEntry(6, -2), 9);
        due("behind the small table", longBase().startOf(5, 8), 9);
        due("in the small table", longBase().startOf(5, 7).smallEntry(7, -2), 0);
        due("a second sector of the small table", longBase().link(9, 23)
            .write(8 * 23, -2, -1, -1, -1, -1, -1, -1, -1).startOf(5, 8), 0);
        due("a folder's start and size", sample().startOf(3, 3).sizeOf(3, 100), 0);
        due("a stream that is not reached", withoutFolder().sizeOf(4, -9), 0);
    }

    /** A base of three sectors, with 12 small sectors. */
    private static SampleFile longBase() {
        return sample().link(7, 8, 22).sizeOf(0, 24);
    }

    private static void rule10() {
        due("base in the small table", sample().startOf(0, 9).sizeOf(0, 8).startOf(5, 3).smallEntry(3, -2), 10);
        due("the small table in the directory", withoutFolder().header(6, 5), 10);
        due("the base in the directory", sample().startOf(0, 6), 10);
        due("the directory in the body", sample().link(4, 6, 5, 11), 10);
        due("a stream in the base", sample().sizeOf(2, 16).startOf(2, 7), 10);
        due("a stream in the small table", sample().table(12, 9), 10);
        due("two streams share their end", sample().table(12, 20), 10);
        due("two streams are the same", sample().sizeOf(2, 60).startOf(2, 13), 10);
        due("two streams share a small sector", sample().startOf(5, 0), 10);
        due("two streams share all small sectors", sample().startOf(5, 2).sizeOf(5, 3), 10);
        due("small sector and sector of one number", sample().startOf(5, 5).smallEntry(5, -2), 0);
    }

    private static void theFirstBrokenRuleIsTold() {
        SampleFile file = sample().startOf(5, 0);
        due("rule 10", file, 10);
        due("rule 9 before it", file.sizeOf(2, -1), 9);
        due("rule 8 before it", file.sizeOf(0, -1), 8);
        due("rule 7 before it", file.formOf(1, SampleFile.form(2, false, 3, 2, 0)), 7);
        due("rule 6 before it", file.nameOf(5, 'a'), 6);
        due("rule 5 before it", file.nameOf(3, 0), 5);
        due("rule 4 before it", file.formOf(5, SampleFile.form(2, false, 6, 0, 0)), 4);
        due("rule 3 before it", file.table(5, 4), 3);
        due("rule 2 before it", file.table(2, -2), 2);
        due("rule 1 before it", file.header(0, 0), 1);
    }

    private static void openCloses() {
        SectorDocument x = sample().loaded();
        CHECK.due("open again", x.open(), 0);
        CHECK.due("unit after open again", x.unit(0), -1);
        CHECK.due("entries after open again", x.entries(), 6);
        x.put(0, 0, 0, 0, 0);
        CHECK.due("open of a broken file", x.open(), 1);
        CHECK.due("entries of a broken file", x.entries(), -1);
    }
}
