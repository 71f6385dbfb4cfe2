import java.util.Arrays;

/** Promise 10, rule 20, and the term GROUP. */
final class GroupRulesTest {
    private static final int G = SampleFile.GROUPS;
    private static final int P = SampleFile.PARAGRAPHS;
    private static final int R = SampleFile.RUNS;
    private static final int S = SampleFile.STYLES;
    private static final int FREE = SampleFile.GROUPS + 11;
    private static final int END = SampleFile.NOTES_SIZE;
    private static final int BAD = SampleFile.modifier(0, 3, 0);
    private static final Checker CHECK = new Checker();

    public static void main(String[] args) {
        groupsExist();
        allGroupsAreReadable();
        classesThreeToSix();
        classZero();
        classOne();
        classTwo();
        classSeven();
        theNumberM();
        wholeModifiers();
        operands();
        extraWords();
        CHECK.finish();
    }

    private static SampleFile sample() {
        return new SampleFile();
    }

    private static void due(String what, SampleFile file, int rule) {
        SectorDocument x = file.opened();
        CHECK.due(what, x.load(), rule);
        CHECK.due(what + ": is loaded", x.length(3) != SectorDocument.NONE, rule == 0);
    }

    /** The run's group has these words. */
    private static SampleFile runGroup(int... words) {
        return sample().notes(R + 3, FREE).notes(FREE, words.length).notes(FREE + 1, words);
    }

    /** The same at the very end of the notes. */
    private static SampleFile lastGroup(int... words) {
        int at = END - 1 - words.length;
        return sample().notes(R + 3, at).notes(at, words.length).notes(at + 1, words);
    }

    private static int head(int kind) {
        return SampleFile.modifier(0, kind, 0);
    }

    private static void groupsExist() {
        CHECK.sentence("Terms: GROUP", "a word n at place o, not less than 0, and n words behind it; all exist");
        due("a group of none", runGroup(), 0);
        due("a group of none at the end", lastGroup(), 0);
        due("a group of one at the end", lastGroup(0), 0);
        due("a group of five at the end", lastGroup(0, 0, 0, 0, 0), 0);
        due("a group of five over the end", lastGroup(0, 0, 0, 0, 0).notes(END - 6, 6), 19);
        for (int n : Far.out(-1, -2, END)) {
            due("a group of " + n, runGroup().notes(FREE, n), 19);
        }
        for (int place : Far.out(-2, END)) {
            due("a group at " + place, sample().notes(R + 3, place), 19);
        }
        due("no group", sample().notes(R + 3, -1), 0);
    }

    private static void allGroupsAreReadable() {
        CHECK.sentence("Rule 20", "all groups of group blocks, styles, paragraphs and runs are readable");
        due("all are", sample(), 0);
        due("a group block", sample().notes(2, BAD), 20);
        due("a group block that no piece tells", sample().notes(11, 0).notes(2, BAD), 20);
        for (int s = 0; s < 3; s++) {
            due("style " + s, sample().notes(S + 2 * s + 1, FREE).notes(FREE, 1, BAD), 20);
        }
        due("a style that no paragraph has", sample().notes(P + 4, 0, 0).notes(S + 5, FREE).notes(FREE, 1, BAD), 20);
        due("the first paragraph", sample().notes(P + 6, FREE).notes(FREE, 1, BAD), 20);
        due("the last paragraph", sample().notes(P + 7, FREE).notes(FREE, 1, BAD), 20);
        due("a run", sample().notes(R + 3, FREE).notes(FREE, 1, BAD), 20);
        due("the last of two runs", sample().notes(R, 2, 0, 4, 10, -1, FREE).notes(FREE, 1, BAD), 20);
        due("the first of two runs", sample().notes(R, 2, 0, 4, 10, FREE, -1).notes(FREE, 1, BAD), 20);
        due("a group that nothing tells", sample().notes(FREE, 1, BAD), 0);
        SampleFile blocks = sample().body(5, 0, 24 + 6 + 1).body(7, 40, 1, 42, 48);
        for (int i = 0; i < 12; i++) {
            blocks.notes(2 * i, 1, 0);
        }
        blocks.notes(23, 1, 0, 2, 1, 0, 10, SampleFile.NARROW, 0);
        blocks.notes(40, -1, -1, 1, 0, 10, 0, -1, 0, 1, 0, 10, -1);
        due("twelve group blocks", blocks, 0);
        due("the last of twelve group blocks", blocks.notes(24, BAD), 20);
    }

    private static void classesThreeToSix() {
        CHECK.sentence("Terms: GROUP",
            "A group is READABLE when its n words are whole modifiers and no class is 3 .. 6");
        for (int kind = 3; kind <= 6; kind++) {
            due("class " + kind, runGroup(head(kind)), 20);
            due("class " + kind + " and words", runGroup(head(kind), 0, 0, 0, 0, 0, 0), 20);
            due("class " + kind + " behind another", runGroup(head(0), head(kind), 0, 0), 20);
            due("class " + kind + " at last", runGroup(head(2), 0, 0, head(kind)), 20);
            due("class " + kind + " as a word of class 1", runGroup(head(1), head(kind)), 0);
            due("class " + kind + " as words of class 2", runGroup(head(2), head(kind), head(kind)), 0);
            due("class " + kind + " as words of class 7", runGroup(head(7), 2, head(kind), head(kind)), 0);
            due("class " + kind + " behind the group", runGroup(0).notes(FREE + 2, head(kind)), 0);
        }
    }

    private static void classZero() {
        CHECK.sentence("Terms: GROUP", "With class 0 no word belongs to it besides");
        due("one", runGroup(head(0)), 0);
        due("three", runGroup(head(0), head(0), head(0)), 0);
        due("one, and what is no modifier", runGroup(head(0), BAD), 20);
        for (int bit = 0; bit < 32; bit++) {
            boolean ofClass = bit >= 5 && bit <= 7;
            due("bit " + bit + " alone", runGroup(1 << bit), ofClass ? 20 : 0);
        }
        due("all bits but the class", runGroup(~(7 << 5)), 0);
    }

    private static void classOne() {
        CHECK.sentence("Terms: GROUP", "with class 1 the next one");
        due("whole", runGroup(head(1), -1), 0);
        due("cut off", runGroup(head(1)), 20);
        due("cut off, a word behind the group", runGroup(head(1)).notes(FREE + 2, 0), 20);
        due("cut off at the end of the notes", lastGroup(head(1)), 20);
        due("whole at the end of the notes", lastGroup(head(1), BAD), 0);
        due("whole, and what is no modifier", runGroup(head(1), 0, BAD), 20);
        due("two, the last cut off", runGroup(head(1), 0, head(1)), 20);
    }

    private static void classTwo() {
        CHECK.sentence("Terms: GROUP", "with class 2 the next two");
        due("whole", runGroup(head(2), BAD, BAD), 0);
        due("cut off by one", runGroup(head(2), 0), 20);
        due("cut off by two", runGroup(head(2)), 20);
        due("cut off at the end of the notes", lastGroup(head(2), 0), 20);
        due("whole at the end of the notes", lastGroup(head(2), BAD, BAD), 0);
        due("whole, and what is no modifier", runGroup(head(2), 0, 0, BAD), 20);
    }

    private static void classSeven() {
        CHECK.sentence("Terms: GROUP",
            "with class 7 the next word, which is a number m not less than 0, and m more behind it");
        due("without m", runGroup(head(7)), 20);
        due("without m, a 0 behind the group", runGroup(head(7)).notes(FREE + 2, 0), 20);
        due("without m, at the end of the notes", lastGroup(head(7)), 20);
        due("without m, behind another", runGroup(head(0), head(7)), 20);
        for (int m = 0; m <= 8; m++) {
            int[] words = new int[2 + m];
            Arrays.fill(words, BAD);
            words[0] = head(7);
            words[1] = m;
            due("m is " + m, runGroup(words), 0);
            due("m is " + m + ", at the end of the notes", lastGroup(words), 0);
            words[1] = m + 1;
            due("m is " + (m + 1) + " for " + m, runGroup(words), 20);
            due("m is " + (m + 1) + " for " + m + ", at the end of the notes", lastGroup(words), 20);
            words[1] = m - 1;
            due("m is " + (m - 1) + " for " + m, runGroup(words), 20);
        }
        due("two of them", runGroup(head(7), 1, BAD, head(7), 0), 0);
    }

    private static void theNumberM() {
        CHECK.sentence("Terms: GROUP", "a number m not less than 0");
        for (int m : Far.out(-1, -2, -3, 1, 2, 256, Integer.MAX_VALUE - FREE - 2)) {
            due("m is " + m, runGroup(head(7), m), 20);
        }
        for (int m : Far.out(-1, -2, -3, -4)) {
            due("m is " + m + ", and more words", runGroup(head(7), m, 0, 0, 0), 20);
            due("m is " + m + ", behind others", runGroup(0, 0, 0, head(7), m, 0), 20);
        }
    }

    private static void wholeModifiers() {
        CHECK.sentence("Rule 20", "are readable");
        due("all classes", runGroup(head(0), head(1), BAD, head(2), BAD, BAD, head(7), 1, BAD, head(0)), 0);
        due("all classes, a word less", runGroup(head(0), head(2), BAD, BAD, head(7), 1, BAD, head(1)), 20);
        CHECK.sentence("Terms: GROUP", "A group is READABLE when its n words are whole modifiers");
        for (int n = 28; n <= 36; n++) {
            due("a group of " + n + " words", longGroup(n), 0);
            due("a group of " + n + " words, the last of class 3", longGroup(n).notes(17 + n, BAD), 20);
        }
        due("no words", runGroup(), 0);
        due("no words, at the end", lastGroup(), 0);
    }

    /** The run's group, from place 17 on, has so many words: a modifier of class 2, and those of class 0. */
    private static SampleFile longGroup(int n) {
        SampleFile file = sample().body(5, 0, 6, 6, 1, 8, 13);
        file.notes(0, 2, 1, 0, 10, SampleFile.NARROW, 0, -1, -1, 1, 0, 10, 0, -1, 1, 0, 10, 17);
        for (int i = 4; i <= n; i++) {
            file.notes(17 + i, 0);
        }
        return file.notes(17, n, head(2), BAD, BAD);
    }

    /** What the run makes of style 0, which is 0, 30, 777. */
    private static long[] lookOf(int... words) {
        SectorDocument x = runGroup(words).notes(P + 6, -1, -1).loaded();
        return new long[] {x.look(0, 0), x.look(0, 1), x.look(0, 2)};
    }

    private static void operands() {
        CHECK.sentence("Terms: GROUP",
            "its NUMBER the bits 0 .. 4, its CLASS the bits 5 .. 7, its OPERAND w >> 8 (with sign)");
        CHECK.due("an operand 50", lookOf(2 | 50 << 8)[1], 50);
        CHECK.due("an operand -5", lookOf(3 | -5 << 8)[1], 25);
        CHECK.due("the least operand", lookOf(3 | Integer.MIN_VALUE)[1], 1);
        CHECK.due("the most operand", lookOf(3 | (1 << 23) - 1 << 8)[1], 200);
        CHECK.due("number 18 is not 2", lookOf(18 | 50 << 8)[1], 30);
        CHECK.due("number 3 with class 1", lookOf(3 | 1 << 5 | 7 << 8, 0)[1], 37);
        CHECK.due("number 3 with class 7", lookOf(3 | 7 << 5 | 7 << 8, 0)[1], 37);
    }

    private static void extraWords() {
        CHECK.sentence("Terms: GROUP",
            "The EXTRA word is the first word behind w (class 1, 2) or behind m (class 7, when m is not 0)");
        CHECK.due("class 1", lookOf(5 | 1 << 5, -9)[2], -9);
        CHECK.due("class 2", lookOf(5 | 2 << 5, 8, 9)[2], 8);
        CHECK.due("class 7, m is 1", lookOf(5 | 7 << 5, 1, 8)[2], 8);
        CHECK.due("class 7, m is 2", lookOf(5 | 7 << 5, 2, 8, 9)[2], 8);
        CHECK.sentence("Terms: GROUP", "the other modifiers have none");
        CHECK.due("class 0", lookOf(5 | 99 << 8)[2], 777);
        CHECK.due("class 0, and a modifier behind it", lookOf(5, 0)[2], 777);
        CHECK.due("class 7, m is 0", lookOf(5 | 7 << 5, 0)[2], 777);
        CHECK.due("class 7, m is 0, and a modifier behind it", lookOf(5 | 7 << 5, 0, 2 | 9 << 8)[2], 777);
    }
}
