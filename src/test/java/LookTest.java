/** Promises 14 and 15, and the terms LOOK, STYLES and PARAGRAPHS: look, style. */
final class LookTest {
    private static final long NO_WORD = SectorDocument.NO_WORD;
    private static final int FREE = SampleFile.GROUPS + 11;
    private static final int P = SampleFile.PARAGRAPHS;
    private static final int R = SampleFile.RUNS;
    private static final int S = SampleFile.STYLES;
    private static final Checker CHECK = new Checker();

    public static void main(String[] args) {
        looksOfTheSample();
        lookWhenNotLoaded();
        lookOfNoPosition();
        lookOfNoWhich();
        stylesOfTheSample();
        styleWhenNotLoaded();
        styleOfNoStyle();
        styleOfNoWhich();
        thePlainLook();
        boldOfARun();
        widthOfARun();
        widthAddedTo();
        backToTheGround();
        toneOfARun();
        otherNumbersDoNothing();
        modifiersInOrder();
        groupsInOrder();
        groupsOfTheFirstAndLastPositions();
        theBlockThatAPieceTells();
        parentsOfStyles();
        theGroundOfAStyleIsItsParent();
        tenStyles();
        CHECK.finish();
    }

    private static void due(String what, SectorDocument x, int p, long bold, long width, long tone) {
        CHECK.due(what + ": BOLD at " + p, x.look(p, 0), bold);
        CHECK.due(what + ": WIDTH at " + p, x.look(p, 1), width);
        CHECK.due(what + ": TONE at " + p, x.look(p, 2), tone);
    }

    private static void dueStyle(String what, SectorDocument x, int s, long bold, long width, long tone) {
        CHECK.due(what + ": BOLD of " + s, x.style(s, 0), bold);
        CHECK.due(what + ": WIDTH of " + s, x.style(s, 1), width);
        CHECK.due(what + ": TONE of " + s, x.style(s, 2), tone);
    }

    private static int bold(int operand) {
        return SampleFile.modifier(1, 0, operand);
    }

    private static int width(int operand) {
        return SampleFile.modifier(2, 0, operand);
    }

    private static int wider(int operand) {
        return SampleFile.modifier(3, 0, operand);
    }

    private static int toGround() {
        return SampleFile.modifier(4, 0, 0);
    }

    /** The run's group becomes this one; position 0 has style 0 (0, 30, 777), 5 style 2 (1, 25, 777). */
    private static SectorDocument run(int... group) {
        SampleFile file = new SampleFile().notes(R + 3, FREE).notes(P + 6, -1, -1);
        return file.notes(FREE, group.length).notes(FREE + 1, group).loaded();
    }

    private static void looksOfTheSample() {
        CHECK.sentence("Promise 14", "Of the look at position p: BOLD (0), WIDTH (1), TONE (2)");
        SectorDocument x = new SampleFile().loaded();
        due("sample", x, 0, 1, 30, 777);
        due("sample", x, 3, 1, 30, 777);
        due("sample", x, 4, 0, 35, 777);
        due("sample", x, 5, 0, 35, 777);
        due("sample", x, 6, 1, 35, 777);
        due("sample", x, 9, 1, 35, 777);
        due("asked again", x, 0, 1, 30, 777);
    }

    private static void lookWhenNotLoaded() {
        CHECK.sentence("Promise 14", "NO_WORD when no document is loaded");
        for (SectorDocument x : States.notLoaded()) {
            for (int which = -1; which <= 3; which++) {
                CHECK.due("look(0, " + which + ")", x.look(0, which), NO_WORD);
                CHECK.due("look(10, " + which + ")", x.look(10, which), NO_WORD);
            }
        }
    }

    private static void lookOfNoPosition() {
        CHECK.sentence("Promise 14", "p is no position");
        SectorDocument x = new SampleFile().loaded();
        for (int p : Far.out(-1, -2, 10, 11, 399, 400, 401, 256, 65536 + 1)) {
            for (int which = 0; which < 3; which++) {
                CHECK.due("look(" + p + ", " + which + ")", x.look(p, which), NO_WORD);
            }
        }
        due("the first", x, 0, 1, 30, 777);
        due("the last", x, 9, 1, 35, 777);
        SectorDocument y = LongText.of(400, 0, 0).loaded();
        due("the last of 400", y, 399, 0, 20, 0);
        CHECK.due("behind 400", y.look(400, 1), NO_WORD);
    }

    private static void lookOfNoWhich() {
        CHECK.sentence("Promise 14", "or which is not 0 .. 2");
        SectorDocument x = new SampleFile().loaded();
        for (int which : Far.out(-1, -2, 3, 4, 256, 256 + 1, 65536 + 1)) {
            CHECK.due("look(0, " + which + ")", x.look(0, which), NO_WORD);
            CHECK.due("look(9, " + which + ")", x.look(9, which), NO_WORD);
            CHECK.due("look(10, " + which + ")", x.look(10, which), NO_WORD);
        }
    }

    private static void stylesOfTheSample() {
        CHECK.sentence("Promise 15", "The same of the look of style s");
        SectorDocument x = new SampleFile().loaded();
        dueStyle("sample", x, 0, 0, 30, 777);
        dueStyle("sample", x, 1, 1, 25, 777);
        dueStyle("sample", x, 2, 1, 25, 777);
    }

    private static void styleWhenNotLoaded() {
        CHECK.sentence("Promise 15", "NO_WORD when no document is loaded");
        for (SectorDocument x : States.notLoaded()) {
            for (int which = -1; which <= 3; which++) {
                CHECK.due("style(0, " + which + ")", x.style(0, which), NO_WORD);
                CHECK.due("style(3, " + which + ")", x.style(3, which), NO_WORD);
            }
        }
    }

    private static void styleOfNoStyle() {
        CHECK.sentence("Promise 15", "there is no style s");
        SectorDocument x = new SampleFile().loaded();
        for (int s : Far.out(-1, -2, 3, 4, 9, 10, 11, 256, 256 + 1, 65536 + 1)) {
            for (int which = 0; which < 3; which++) {
                CHECK.due("style(" + s + ", " + which + ")", x.style(s, which), NO_WORD);
            }
        }
        SectorDocument y = lineOfStyles(10).loaded();
        CHECK.due("style 9 of ten", y.style(9, 1), 20 + 10);
        CHECK.due("style 10 of ten", y.style(10, 1), NO_WORD);
        SectorDocument z = lineOfStyles(1).loaded();
        CHECK.due("style 0 of one", z.style(0, 1), 21);
        CHECK.due("style 1 of one", z.style(1, 1), NO_WORD);
        new SampleFile().putInto(y);
        CHECK.due("open with fewer styles", y.open(), 0);
        CHECK.due("load with fewer styles", y.load(), 0);
        CHECK.due("style 2 of three", y.style(2, 1), 25);
        CHECK.due("style 3 of three, which was one before", y.style(3, 1), NO_WORD);
    }

    private static void styleOfNoWhich() {
        CHECK.sentence("Promise 15", "or which is not 0 .. 2");
        SectorDocument x = new SampleFile().loaded();
        for (int which : Far.out(-1, -2, 3, 4, 256, 256 + 1, 65536 + 1)) {
            CHECK.due("style(0, " + which + ")", x.style(0, which), NO_WORD);
            CHECK.due("style(2, " + which + ")", x.style(2, which), NO_WORD);
        }
    }

    private static void thePlainLook() {
        CHECK.sentence("Terms: LOOK", "the PLAIN look is 0, 20, 0");
        SectorDocument x = new SampleFile().notes(S, -1, -1).loaded();
        dueStyle("no parent and no group", x, 0, 0, 20, 0);
        SectorDocument y = new SampleFile().loaded();
        new SampleFile().notes(S, -1, -1).putInto(y);
        y.open();
        y.load();
        dueStyle("after another document", y, 0, 0, 20, 0);
    }

    private static void boldOfARun() {
        CHECK.sentence("Terms: LOOK", "BOLD becomes 0 or 1 for an operand 0 or 1");
        CHECK.due("BOLD 1 by 0", run(bold(0)).look(5, 0), 0);
        CHECK.due("BOLD 0 by 0", run(bold(0)).look(0, 0), 0);
        CHECK.due("BOLD 0 by 1", run(bold(1)).look(0, 0), 1);
        CHECK.due("BOLD 1 by 1", run(bold(1)).look(5, 0), 1);
        CHECK.sentence("Terms: LOOK", "the ground's BOLD for 128");
        CHECK.due("BOLD by 128 over 0", run(bold(1), bold(128)).look(0, 0), 0);
        CHECK.due("BOLD by 128 over 1", run(bold(0), bold(128)).look(5, 0), 1);
        CHECK.sentence("Terms: LOOK", "the other one than the ground's for 129");
        CHECK.due("BOLD by 129 over 0", run(bold(129)).look(0, 0), 1);
        CHECK.due("BOLD by 129 over 1", run(bold(129)).look(5, 0), 0);
        CHECK.due("BOLD by 129 twice over 0", run(bold(129), bold(129)).look(0, 0), 1);
        CHECK.due("BOLD 0 by 129 over 1", run(bold(0), bold(129)).look(5, 0), 0);
        CHECK.sentence("Terms: LOOK", "and stays for others");
        for (int operand : new int[] {2, 3, -1, -2, 127, 130, 256, 257, -127, -128, (1 << 23) - 1, -(1 << 23)}) {
            CHECK.due("BOLD 0 by " + operand, run(bold(operand)).look(0, 0), 0);
            CHECK.due("BOLD 1 by " + operand, run(bold(operand)).look(5, 0), 1);
            CHECK.due("BOLD 1 over 0 by " + operand, run(bold(1), bold(operand)).look(0, 0), 1);
        }
    }

    private static void widthOfARun() {
        CHECK.sentence("Terms: LOOK", "WIDTH becomes the operand if that is 1 .. 200");
        for (int operand : new int[] {1, 2, 20, 199, 200}) {
            CHECK.due("WIDTH by " + operand, run(width(operand)).look(0, 1), operand);
        }
        for (int operand : new int[] {0, -1, -200, 201, 202, 256 + 5, 65536 + 5, (1 << 23) - 1, -(1 << 23)}) {
            CHECK.due("WIDTH by " + operand, run(width(operand)).look(0, 1), 30);
        }
    }

    private static void widthAddedTo() {
        CHECK.sentence("Terms: LOOK", "the operand is added to WIDTH, and what comes out is made 1 if it is less, "
            + "200 if it is more");
        int[][] due = {
            {0, 30}, {1, 31}, {-1, 29}, {169, 199}, {170, 200}, {171, 200}, {-28, 2}, {-29, 1}, {-30, 1}, {-31, 1},
            {-230, 1}, {500, 200}, {(1 << 23) - 1, 200}, {-(1 << 23), 1}
        };
        for (int[] one : due) {
            CHECK.due("WIDTH 30 and " + one[0], run(wider(one[0])).look(0, 1), one[1]);
        }
        CHECK.due("WIDTH kept between", run(wider(500), wider(-10)).look(0, 1), 190);
        CHECK.due("WIDTH kept between, below", run(wider(-500), wider(10)).look(0, 1), 11);
        CHECK.due("WIDTH 200 and 1", run(width(200), wider(1)).look(0, 1), 200);
        CHECK.due("WIDTH 1 and -1", run(width(1), wider(-1)).look(0, 1), 1);
        CHECK.due("WIDTH 1 and 199", run(width(1), wider(199)).look(0, 1), 200);
        CHECK.due("WIDTH 200 and -199", run(width(200), wider(-199)).look(0, 1), 1);
    }

    private static void backToTheGround() {
        CHECK.sentence("Terms: LOOK", "4: the look becomes as the ground is");
        SectorDocument x = run(bold(129), width(99), SampleFile.modifier(5, 1, 0), 5, toGround());
        due("back to the ground", x, 0, 0, 30, 777);
        due("back to the ground", x, 5, 1, 25, 777);
        SectorDocument y = run(SampleFile.modifier(4, 1, 0), bold(1), wider(2));
        due("on from the ground", y, 0, 0, 32, 777);
        CHECK.sentence("Terms: LOOK", "over a GROUND (a look that stays)");
        dueStyle("untouched by looks", y, 0, 0, 30, 777);
        due("asked again", y, 0, 0, 32, 777);
        due("changed, then to the ground", run(width(5), toGround(), wider(1), toGround()), 0, 0, 30, 777);
    }

    private static void toneOfARun() {
        CHECK.sentence("Terms: LOOK", "TONE becomes the extra word, if there is one");
        CHECK.due("TONE with class 0", run(SampleFile.modifier(5, 0, 9)).look(0, 2), 777);
        CHECK.due("TONE with class 1", run(SampleFile.modifier(5, 1, 9), -5).look(0, 2), -5);
        CHECK.due("TONE with class 2", run(SampleFile.modifier(5, 2, 9), 6, 7).look(0, 2), 6);
        CHECK.due("TONE with class 7, m 0", run(SampleFile.modifier(5, 7, 9), 0).look(0, 2), 777);
        CHECK.due("TONE with class 7, m 1", run(SampleFile.modifier(5, 7, 9), 1, 8).look(0, 2), 8);
        CHECK.due("TONE with class 7, m 2", run(SampleFile.modifier(5, 7, 9), 2, 8, 4).look(0, 2), 8);
        CHECK.sentence("Terms: LOOK", "TONE (any int)");
        for (int tone : Far.out(0, -1)) {
            CHECK.due("TONE " + tone, run(SampleFile.modifier(5, 1, 0), tone).look(0, 2), tone);
        }
    }

    private static void otherNumbersDoNothing() {
        CHECK.sentence("Terms: LOOK", "other numbers do nothing");
        for (int number = 0; number < 32; number++) {
            if (number == 0 || number > 5) {
                for (int operand : new int[] {0, 1, 55, 129}) {
                    due("number " + number, run(SampleFile.modifier(number, 1, operand), 55), 0, 0, 30, 777);
                    due("number " + number, run(SampleFile.modifier(number, 1, operand), 55), 5, 1, 25, 777);
                }
            }
        }
        due("an empty group", run(), 5, 1, 25, 777);
    }

    private static void modifiersInOrder() {
        CHECK.sentence("Terms: LOOK", "does its modifiers in order");
        CHECK.due("WIDTH, then more", run(width(10), wider(5)).look(0, 1), 15);
        CHECK.due("more, then WIDTH", run(wider(5), width(10)).look(0, 1), 10);
        CHECK.due("words besides are no modifiers", run(SampleFile.modifier(1, 2, 1), bold(0), bold(0)).look(0, 0), 1);
        CHECK.due("m and its words are none", run(SampleFile.modifier(2, 7, 44), 1, width(9), wider(1)).look(0, 1), 45);
        CHECK.due("an m of none", run(SampleFile.modifier(2, 7, 44), 0, wider(1)).look(0, 1), 45);
    }

    private static void groupsInOrder() {
        CHECK.sentence("Terms: PARAGRAPHS", "to which are applied its paragraph's group, its run's group, "
            + "and the group of the group block that its piece tells, all over the look of the style as ground");
        SampleFile file = new SampleFile();
        file.notes(P + 6, FREE, FREE).notes(FREE, 2, width(50), bold(0));
        file.notes(R + 3, FREE + 3).notes(FREE + 3, 2, wider(5), width(0));
        file.notes(2, wider(-20));
        SectorDocument x = file.loaded();
        due("paragraph and run", x, 4, 0, 55, 777);
        due("paragraph, run and block", x, 6, 0, 35, 777);
        file.notes(FREE + 4, width(7)).notes(2, wider(-6));
        due("the run is behind the paragraph", file.loaded(), 4, 0, 7, 777);
        due("the block is behind the run", file.loaded(), 6, 0, 1, 777);
        file.notes(2, toGround());
        due("the block goes to the style", file.loaded(), 6, 1, 25, 777);
        file.notes(2, bold(129)).notes(FREE + 4, bold(1));
        due("the block's ground is the style", file.loaded(), 6, 0, 50, 777);
        file.notes(FREE + 4, toGround()).notes(2, wider(1));
        due("the run's ground is the style", file.loaded(), 6, 1, 26, 777);
        file.notes(P + 6, -1, -1).notes(R + 3, -1).notes(11, 0);
        due("the style alone", file.loaded(), 9, 1, 25, 777);
    }

    private static void groupsOfTheFirstAndLastPositions() {
        CHECK.sentence("Terms: PARAGRAPHS", "The look at a position: the look of its paragraph's style");
        SampleFile file = new SampleFile().notes(P + 6, -1, -1).notes(R + 3, -1).notes(11, 0);
        for (int limit = 1; limit <= 9; limit++) {
            SectorDocument x = file.notes(P + 2, limit).loaded();
            CHECK.due("the first of paragraph 0", x.look(0, 1), 30);
            CHECK.due("the last of paragraph 0", x.look(limit - 1, 1), 30);
            CHECK.due("the first of paragraph 1", x.look(limit, 1), 25);
            CHECK.due("the last of paragraph 1", x.look(9, 1), 25);
        }
        CHECK.sentence("Terms: PARAGRAPHS", "its paragraph's group, its run's group, and the group of the group block");
        SampleFile plain = new SampleFile().body(7, 54, 1).notes(54, -1, -1).notes(P + 4, 0, 0, FREE, -1);
        plain.notes(FREE, 1, wider(1)).notes(FREE + 2, 1, wider(10)).notes(2, wider(100));
        plain.notes(8, SampleFile.NARROW, 0);
        for (int limit = 1; limit <= 8; limit++) {
            plain.notes(P + 2, limit).notes(R, 2, 0, limit + 1, 10, FREE + 2, -1).notes(6, 9 - limit);
            SectorDocument x = plain.notes(10, 1, 0).loaded();
            for (int p = 0; p < 10; p++) {
                int due = 20 + (p < limit ? 1 : 0) + (p < limit + 1 ? 10 : 0) + (p < 9 - limit ? 100 : 0);
                CHECK.due("WIDTH at " + p + " with a limit " + limit, x.look(p, 1), due);
            }
        }
    }

    private static void theBlockThatAPieceTells() {
        CHECK.sentence("Terms: PIECES", "tells a group block (1 the first)");
        SampleFile file = new SampleFile().body(5, FREE, 15).notes(P + 4, 0, 0, -1, -1).notes(R + 3, -1);
        file.notes(FREE, 1, 1, width(41), 1, 0, 1, 2, bold(2), wider(2), 2, 1, 0, 10, SampleFile.NARROW, 0);
        int[] due = {30, 41, 30, 32};
        for (int block = 0; block <= 3; block++) {
            SectorDocument x = file.notes(FREE + 14, block).loaded();
            CHECK.due("the look with group block " + block, x.look(0, 1), due[block]);
            CHECK.due("the same at the last position", x.look(9, 1), due[block]);
        }
    }

    private static void parentsOfStyles() {
        CHECK.sentence("Terms: STYLES", "Its look is its parent's (the plain look if none), its group applied to that");
        SampleFile file = new SampleFile();
        file.notes(S, 1, SampleFile.GROUPS + 7, 2, SampleFile.GROUPS + 4, -1, SampleFile.GROUPS);
        SectorDocument x = file.loaded();
        dueStyle("later parents", x, 2, 0, 30, 777);
        dueStyle("later parents", x, 1, 1, 25, 777);
        dueStyle("later parents", x, 0, 1, 35, 777);
        file.notes(S, -1, -1);
        dueStyle("no parent and no group", file.loaded(), 0, 0, 20, 0);
        file.notes(S, 1, -1);
        dueStyle("a parent and no group", file.loaded(), 0, 1, 25, 777);
        file.notes(S, -1, SampleFile.GROUPS + 7);
        dueStyle("a group and no parent", file.loaded(), 0, 0, 30, 0);
    }

    private static void theGroundOfAStyleIsItsParent() {
        CHECK.sentence("Terms: STYLES", "over that same look as ground");
        SampleFile file = new SampleFile().notes(S + 4, 1, FREE);
        file.notes(FREE, 3, bold(0), bold(128), wider(1));
        dueStyle("128 in a style", file.loaded(), 2, 1, 26, 777);
        file.notes(FREE + 1, bold(0), bold(129));
        dueStyle("129 in a style", file.loaded(), 2, 0, 26, 777);
        file.notes(FREE + 1, width(99), toGround());
        dueStyle("4 in a style", file.loaded(), 2, 1, 26, 777);
        file.notes(S + 4, -1).notes(FREE + 1, width(99), toGround());
        dueStyle("4 in a style without a parent", file.loaded(), 2, 0, 21, 0);
        file.notes(FREE + 1, bold(1), bold(128));
        dueStyle("128 in a style without a parent", file.loaded(), 2, 0, 21, 0);
        file.notes(FREE + 1, bold(1), bold(129));
        dueStyle("129 in a style without a parent", file.loaded(), 2, 1, 21, 0);
    }

    /** Each style adds 1 to the WIDTH of the one before; the text has the first. */
    private static SampleFile lineOfStyles(int count) {
        SampleFile file = new SampleFile().body(8, count).body(9, 40, 46).notes(50, 1, wider(1));
        for (int s = 0; s < count; s++) {
            file.notes(S + 2 * s, s - 1, 50);
        }
        return file.notes(40, 1, 0, 10, count - 1, -1, 0, 1, 0, 10, -1);
    }

    private static void tenStyles() {
        CHECK.sentence("Terms: STYLES", "word 8 of the body is their number, 1 .. 10");
        for (int count = 1; count <= 10; count++) {
            SectorDocument x = lineOfStyles(count).loaded();
            for (int s = 0; s < count; s++) {
                CHECK.due("WIDTH of " + s + " of " + count, x.style(s, 1), 21 + s);
            }
            CHECK.due("behind the last of " + count, x.style(count, 1), NO_WORD);
            CHECK.due("the look with the last of " + count, x.look(0, 1), 20 + count);
        }
        SampleFile turned = lineOfStyles(10);
        for (int s = 0; s < 10; s++) {
            turned.notes(S + 2 * s, s == 9 ? -1 : s + 1);
        }
        SectorDocument y = turned.loaded();
        for (int s = 0; s < 10; s++) {
            CHECK.due("WIDTH of " + s + " of ten turned", y.style(s, 1), 30 - s);
        }
    }
}
