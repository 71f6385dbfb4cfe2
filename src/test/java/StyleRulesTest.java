import java.util.Arrays;

/** Promise 10, rule 17, and the term STYLES. */
final class StyleRulesTest {
    private static final int S = SampleFile.STYLES;
    private static final int G = SampleFile.GROUPS;
    private static final int PARAGRAPH_STYLES = SampleFile.PARAGRAPHS + 4;
    private static final int END = SampleFile.NOTES_SIZE;
    private static final Checker CHECK = new Checker();

    public static void main(String[] args) {
        howManyStyles();
        theWordsExist();
        parents();
        noCircles();
        groups();
        CHECK.finish();
    }

    private static SampleFile sample() {
        return new SampleFile();
    }

    private static void due(String what, SampleFile file, int rule) {
        SectorDocument x = file.opened();
        CHECK.due(what, x.load(), rule);
        CHECK.due(what + ": is loaded", x.length(3) != SectorDocument.NONE, rule == 0);
    }

    /** So many styles from place 12 on, each with the one before as parent; the bands stand behind them. */
    private static SampleFile styles(int count) {
        SampleFile file = sample().body(8, count).body(9, 40, 46);
        for (int s = 0; s < count; s++) {
            file.notes(S + 2 * s, s - 1, -1);
        }
        return file.notes(40, 1, 0, 10, 0, -1, 0, 1, 0, 10, -1);
    }

    private static void howManyStyles() {
        CHECK.sentence("Terms: STYLES", "word 8 of the body is their number, 1 .. 10");
        for (int count = 0; count <= 13; count++) {
            due(count + " styles", styles(count), count >= 1 && count <= 10 ? 0 : 17);
        }
        CHECK.sentence("Rule 17", "the number and the words of the styles are as said");
        for (int count : Far.out(0, -1, -2, 11, 256 + 3, 65536 + 3)) {
            due(count + " styles", sample().body(8, count), 17);
        }
    }

    private static void theWordsExist() {
        CHECK.sentence("Terms: STYLES", "style s has the words of the notes at the places x + 2 * s");
        due("three styles up to the end", sample().body(7, END - 6).notes(END - 6, -1, -1, 0, -1, 0, -1), 0);
        due("three styles over the end by one", sample().body(7, END - 5).notes(END - 5, -1, -1, 0, -1, 0, -1), 17);
        due("three styles over the end by two", sample().body(7, END - 4).notes(END - 4, -1, -1, 0, -1), 17);
        due("one style up to the end", styles(1).body(7, END - 2).notes(END - 2, -1, -1), 0);
        due("one style over the end by one", styles(1).body(7, END - 1).notes(END - 1, -1, -1), 17);
        due("one style behind the end", styles(1).body(7, END), 17);
        due("ten styles up to the end", tenStylesAt(END - 20), 0);
        due("ten styles over the end by one", tenStylesAt(END - 19), 17);
        due("styles at 0", sample().body(5, 48, 12).notes(48, 1, 1, 0, 2, 2, 0, 6, 10, SampleFile.NARROW, 0, 0, 0)
            .body(7, 0).notes(0, -1, -1, 0, -1, 0, -1), 0);
        CHECK.sentence("Terms: STYLES", "with x the place that word 7 tells");
        for (int place : Far.out(-1, -2, -6, END, END + 1, Integer.MAX_VALUE - 5, Integer.MIN_VALUE + S, 1 << 29 | S)) {
            due("styles at " + place, sample().body(7, place), 17);
        }
    }

    /** Ten styles without parents and groups, from this place on; the bands are at 12. */
    private static SampleFile tenStylesAt(int place) {
        int[] words = new int[20];
        Arrays.fill(words, -1);
        SampleFile file = sample().body(7, place, 10, 12, 18).notes(place, words);
        return file.notes(12, 1, 0, 10, 0, -1, 0, 1, 0, 10, -1);
    }

    /** Two styles, and behind them two words that could be a third one's. */
    private static SampleFile twoStyles() {
        return sample().body(8, 2).notes(S, -1, -1, 0, -1, -1, -1).notes(PARAGRAPH_STYLES, 0, 1);
    }

    private static void parents() {
        CHECK.sentence("Rule 17", "every parent is -1 or a style");
        for (int s = 0; s < 3; s++) {
            for (int parent : Far.out(-2, -3, 3, 4, 10, 256 + 2, 65536 + 2)) {
                due("parent " + parent + " of " + s, sample().notes(S + 2 * s, parent), 17);
            }
            due("parent -1 of " + s, sample().notes(S + 2 * s, -1), 0);
        }
        due("the first as parent", sample().notes(S + 4, 0), 0);
        due("the last as parent", sample().notes(S, 2).notes(S + 2, -1).notes(S + 4, -1), 0);
        due("the last of ten as parent", styles(10).notes(S, 9).notes(S + 18, -1), 0);
        due("one behind ten as parent", styles(10).notes(S, 10), 17);
        due("one behind one as parent", styles(1).notes(S, 1), 17);
        due("words like a style behind two", twoStyles(), 0);
        due("words like a style behind two as parent of the first", twoStyles().notes(S, 2), 17);
        due("words like a style behind two as parent of the last", twoStyles().notes(S + 2, 2), 17);
        due("words like a style before the first as parent", sample().body(7, S + 2, 2)
            .notes(S, -1, -1, -2, -1, 0, -1).notes(PARAGRAPH_STYLES, 0, 1), 17);
        due("a style that nothing uses", sample().notes(PARAGRAPH_STYLES, 0, 0).notes(S + 4, 3), 17);
    }

    private static void noCircles() {
        CHECK.sentence("Rule 17", "going from a style to its parent and on never comes back to it");
        for (int s = 0; s < 3; s++) {
            due("the parent of " + s + " is itself", sample().notes(S + 2 * s, s), 17);
        }
        due("a circle of two", sample().notes(S, 1), 17);
        due("a circle of the last two", sample().notes(S + 2, 2), 17);
        due("a circle of three", sample().notes(S, 2), 17);
        due("a circle of ten", styles(10).notes(S, 9), 17);
        due("a circle of nine, the last outside", styles(10).notes(S, 8), 17);
        due("a circle of nine, the first outside", styles(10).notes(S + 2, 9), 17);
        due("a line of ten", styles(10), 0);
        due("a line of ten backwards", backwards(), 0);
        due("all have one parent", sample().notes(S + 4, 0), 0);
    }

    private static SampleFile backwards() {
        SampleFile file = styles(10);
        for (int s = 0; s < 10; s++) {
            file.notes(S + 2 * s, s == 9 ? -1 : s + 1);
        }
        return file;
    }

    private static void groups() {
        CHECK.sentence("Rule 17", "every group of a style is -1 or a group");
        for (int s = 0; s < 3; s++) {
            int at = S + 2 * s + 1;
            for (int place : Far.out(-2, -3, END, END + 1, 64, Integer.MIN_VALUE + G, 1 << 29 | G)) {
                due("the group of " + s + " at " + place, sample().notes(at, place), 17);
            }
            due("no group of " + s, sample().notes(at, -1), 0);
            due("a last group of " + s, sample().notes(at, END - 1).notes(END - 1, 0), 0);
            due("a last group of " + s + " over the end", sample().notes(at, END - 1).notes(END - 1, 1), 17);
            for (int n : Far.out(-1, -2, 2, END, END - 58, Integer.MAX_VALUE - 58)) {
                due("a group of " + n + " words", sample().notes(at, END - 2).notes(END - 2, n, 0), 17);
            }
            due("a group up to the end", sample().notes(at, END - 2).notes(END - 2, 1, 0), 0);
        }
        due("a group at 0", sample().body(5, 48, 12).notes(48, 1, 1, 0, 2, 2, 0, 6, 10, SampleFile.NARROW, 0, 0, 0)
            .notes(0, 0).notes(S + 1, 0), 0);
        due("the group of a style that nothing uses", sample().notes(PARAGRAPH_STYLES, 0, 0).notes(S + 5, -2), 17);
    }
}
