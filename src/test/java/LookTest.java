/** Promises 14 and 15: look, style. */
final class LookTest {
    private static final long NO_WORD = SectorDocument.NO_WORD;
    private static final int FREE = SampleFile.GROUPS + 11;
    private static final Checker CHECK = new Checker();

    public static void main(String[] args) {
        stylesOfTheSample();
        looksOfTheSample();
        styleRefuses();
        lookRefuses();
        boldOfARun();
        widthOfARun();
        toneOfARun();
        theGroundStays();
        otherNumbersDoNothing();
        groupsInOrder();
        parentsOfStyles();
        theGroundOfAStyleIsItsParent();
        CHECK.finish();
    }

    private static void due(String what, SectorDocument x, int p, long bold, long width, long tone) {
        CHECK.due(what + ": BOLD at " + p, x.look(p, 0), bold);
        CHECK.due(what + ": WIDTH at " + p, x.look(p, 1), width);
        CHECK.due(what + ": TONE at " + p, x.look(p, 2), tone);
    }

    private static void dueStyle(String what, SectorDocument x, int s, long bold, long width, long tone) {
        CHECK.due(what + ": BOLD of " + s, x.style(s, 0), bold);
        CHECK.due(what + ": WIDTH of " + s, x.style(s, 1), width);
        CHECK.due(what + ": TONE of " + s, x.style(s, 2), tone);
    }

    private static void stylesOfTheSample() {
        SectorDocument x = new SampleFile().loaded();
        dueStyle("sample", x, 0, 0, 30, 777);
        dueStyle("sample", x, 1, 1, 25, 777);
        dueStyle("sample", x, 2, 1, 25, 777);
    }

    private static void looksOfTheSample() {
        SectorDocument x = new SampleFile().loaded();
        due("sample", x, 0, 1, 30, 777);
        due("sample", x, 3, 1, 30, 777);
        due("sample", x, 4, 0, 35, 777);
        due("sample", x, 5, 0, 35, 777);
        due("sample", x, 6, 1, 35, 777);
        due("sample", x, 9, 1, 35, 777);
        due("asked again", x, 0, 1, 30, 777);
    }

    private static void styleRefuses() {
        SectorDocument x = new SampleFile().loaded();
        for (int s : new int[] {-1, 3, 10, Integer.MIN_VALUE, Integer.MAX_VALUE}) {
            CHECK.due("style " + s, x.style(s, 0), NO_WORD);
        }
        for (int which : new int[] {-1, 3, Integer.MIN_VALUE, Integer.MAX_VALUE}) {
            CHECK.due("style for " + which, x.style(0, which), NO_WORD);
        }
        x.open();
        CHECK.due("style when not loaded", x.style(0, 0), NO_WORD);
    }

    private static void lookRefuses() {
        SectorDocument x = new SampleFile().loaded();
        for (int p : new int[] {-1, 10, 400, Integer.MIN_VALUE, Integer.MAX_VALUE}) {
            CHECK.due("look at " + p, x.look(p, 0), NO_WORD);
        }
        for (int which : new int[] {-1, 3, Integer.MIN_VALUE, Integer.MAX_VALUE}) {
            CHECK.due("look for " + which, x.look(0, which), NO_WORD);
        }
        x.resize(24);
        CHECK.due("look when closed", x.look(0, 0), NO_WORD);
    }

    /** The run's group becomes this one; position 0 has style 0 (0, 30, 777), 5 style 1 (1, 25, 777). */
    private static SectorDocument run(int... group) {
        SampleFile file = new SampleFile().notes(SampleFile.RUNS + 3, FREE);
        file.notes(SampleFile.PARAGRAPHS + 6, -1, -1);
        return file.notes(FREE, group.length).notes(FREE + 1, group).loaded();
    }

    private static int bold(int operand) {
        return SampleFile.modifier(1, 0, operand);
    }

    private static int width(int operand) {
        return SampleFile.modifier(2, 0, operand);
    }

    private static int wider(int operand) {
        return SampleFile.modifier(3, 0, operand);
    }

    private static void boldOfARun() {
        CHECK.due("BOLD by 0", run(bold(0)).look(5, 0), 0);
        CHECK.due("BOLD by 1", run(bold(1)).look(0, 0), 1);
        CHECK.due("BOLD by 128 over 0", run(bold(1), bold(128)).look(0, 0), 0);
        CHECK.due("BOLD by 128 over 1", run(bold(0), bold(128)).look(5, 0), 1);
        CHECK.due("BOLD by 129 over 0", run(bold(129)).look(0, 0), 1);
        CHECK.due("BOLD by 129 over 1", run(bold(129)).look(5, 0), 0);
        CHECK.due("BOLD by 129 twice over 0", run(bold(129), bold(129)).look(0, 0), 1);
        for (int operand : new int[] {2, -1, 127, 130, 256, -128}) {
            CHECK.due("BOLD 0 by " + operand, run(bold(operand)).look(0, 0), 0);
            CHECK.due("BOLD 1 by " + operand, run(bold(operand)).look(5, 0), 1);
        }
    }

    private static void widthOfARun() {
        CHECK.due("WIDTH 1", run(width(1)).look(0, 1), 1);
        CHECK.due("WIDTH 200", run(width(200)).look(0, 1), 200);
        for (int operand : new int[] {0, 201, -1, (1 << 23) - 1, -(1 << 23)}) {
            CHECK.due("WIDTH by " + operand, run(width(operand)).look(0, 1), 30);
        }
        CHECK.due("WIDTH and 170", run(wider(170)).look(0, 1), 200);
        CHECK.due("WIDTH and 171", run(wider(171)).look(0, 1), 200);
        CHECK.due("WIDTH and -29", run(wider(-29)).look(0, 1), 1);
        CHECK.due("WIDTH and -30", run(wider(-30)).look(0, 1), 1);
        CHECK.due("WIDTH and the most", run(wider((1 << 23) - 1)).look(0, 1), 200);
        CHECK.due("WIDTH and the least", run(wider(-(1 << 23))).look(0, 1), 1);
        CHECK.due("WIDTH kept between", run(wider(500), wider(-10)).look(0, 1), 190);
    }

    private static void toneOfARun() {
        CHECK.due("TONE with class 0", run(SampleFile.modifier(5, 0, 9)).look(0, 2), 777);
        CHECK.due("TONE with class 1", run(SampleFile.modifier(5, 1, 9), -5).look(0, 2), -5);
        CHECK.due("TONE with class 2", run(SampleFile.modifier(5, 2, 9), 6, 7).look(0, 2), 6);
        CHECK.due("TONE with class 7, m 0", run(SampleFile.modifier(5, 7, 9), 0).look(0, 2), 777);
        CHECK.due("TONE with class 7, m 1", run(SampleFile.modifier(5, 7, 9), 1, 8).look(0, 2), 8);
        CHECK.due("TONE with class 7, m 2", run(SampleFile.modifier(5, 7, 9), 2, 8, 4).look(0, 2), 8);
        CHECK.due("the most TONE", run(SampleFile.modifier(5, 1, 0), Integer.MAX_VALUE).look(0, 2),
            Integer.MAX_VALUE);
        CHECK.due("the least TONE", run(SampleFile.modifier(5, 1, 0), Integer.MIN_VALUE).look(0, 2),
            Integer.MIN_VALUE);
        CHECK.due("BOLD with words besides", run(SampleFile.modifier(1, 2, 1), bold(0), bold(0)).look(0, 0), 1);
        CHECK.due("WIDTH with m", run(SampleFile.modifier(2, 7, 44), 1, width(9), wider(1)).look(0, 1), 45);
    }

    private static void theGroundStays() {
        SectorDocument x = run(bold(129), width(99), SampleFile.modifier(5, 1, 0), 5, SampleFile.modifier(4, 0, 0));
        due("back to the ground", x, 0, 0, 30, 777);
        due("back to the ground", x, 5, 1, 25, 777);
        SectorDocument y = run(SampleFile.modifier(4, 1, 0), bold(1), wider(2));
        due("on from the ground", y, 0, 0, 32, 777);
        dueStyle("untouched by looks", y, 0, 0, 30, 777);
    }

    private static void otherNumbersDoNothing() {
        for (int number = 0; number < 32; number++) {
            if (number == 0 || number > 5) {
                due("number " + number, run(SampleFile.modifier(number, 1, 1), 55), 0, 0, 30, 777);
            }
        }
        due("an empty group", run(), 5, 1, 25, 777);
    }

    private static void groupsInOrder() {
        SampleFile file = new SampleFile();
        file.notes(SampleFile.PARAGRAPHS + 6, FREE, FREE).notes(FREE, 2, width(50), bold(0));
        file.notes(SampleFile.RUNS + 3, FREE + 3).notes(FREE + 3, 2, wider(5), SampleFile.modifier(2, 0, 0));
        file.notes(2, wider(-20));
        SectorDocument x = file.loaded();
        due("paragraph and run", x, 4, 0, 55, 777);
        due("paragraph, run and block", x, 6, 0, 35, 777);
        file.notes(FREE + 4, width(7)).notes(2, wider(-6));
        due("the run is behind the paragraph", file.loaded(), 4, 0, 7, 777);
        due("the block is behind the run", file.loaded(), 6, 0, 1, 777);
        file.notes(2, SampleFile.modifier(4, 0, 0));
        due("the block goes to the style", file.loaded(), 6, 1, 25, 777);
    }

    private static void parentsOfStyles() {
        SampleFile file = new SampleFile();
        file.notes(SampleFile.STYLES, 1, SampleFile.GROUPS + 7, 2, SampleFile.GROUPS + 4, -1, SampleFile.GROUPS);
        SectorDocument x = file.loaded();
        dueStyle("later parents", x, 2, 0, 30, 777);
        dueStyle("later parents", x, 1, 1, 25, 777);
        dueStyle("later parents", x, 0, 1, 35, 777);
        file.notes(SampleFile.STYLES, -1, -1);
        dueStyle("no parent and no group", file.loaded(), 0, 0, 20, 0);
        SectorDocument y = new SampleFile().loaded();
        file.putInto(y);
        y.open();
        y.load();
        dueStyle("after another document", y, 0, 0, 20, 0);
    }

    private static void theGroundOfAStyleIsItsParent() {
        SampleFile file = new SampleFile().notes(SampleFile.STYLES + 4, 1, FREE);
        file.notes(FREE, 3, bold(0), bold(128), wider(1));
        dueStyle("128 in a style", file.loaded(), 2, 1, 26, 777);
        file.notes(FREE + 1, bold(0), bold(129));
        dueStyle("129 in a style", file.loaded(), 2, 0, 26, 777);
        file.notes(FREE + 1, width(99), SampleFile.modifier(4, 0, 0));
        dueStyle("4 in a style", file.loaded(), 2, 1, 26, 777);
        file.notes(SampleFile.STYLES + 4, -1).notes(FREE + 1, width(99), SampleFile.modifier(4, 0, 0));
        dueStyle("4 in a style without a parent", file.loaded(), 2, 0, 21, 0);
    }
}
