/**
 * Counts the answers of a test that are not as due, and ends it with the exit code that tells so.
 *
 * <p>A test goes sentence by sentence: each begins with {@link #sentence}, which names the promise, the
 * rule or the term and the document's own words, and what is asked after it is asked for that sentence.
 */
final class Checker {
    private String sentence = "";
    private int wrong = 0;
    private int asked = 0;
    private int askedHere = 0;

    /** Where is "Promise 2", "Rule 14", "Terms: BANDS" or "Terms". */
    void sentence(String where, String words) {
        endSentence();
        sentence = where + ", \"" + words + "\": ";
        askedHere = 0;
        if (!DocumentText.says(where, words)) {
            tell("the document does not say so there");
        }
    }

    void due(String what, long got, long want) {
        asked++;
        askedHere++;
        if (got != want) {
            tell(what + " answered " + got + ", due is " + want);
        }
    }

    void due(String what, boolean got, boolean want) {
        due(what, got ? 1 : 0, want ? 1 : 0);
    }

    /** Asks what the sample would answer otherwise when it is open. */
    void dueClosed(String what, SectorDocument x) {
        due(what + ": entries()", x.entries(), SectorDocument.NONE);
        for (int i = 0; i < 5; i++) {
            due(what + ": entry(0, " + i + ")", x.entry(0, i), SectorDocument.NO_WORD);
        }
        due(what + ": find(0, DOC)", x.find(0, SampleFile.DOC), SectorDocument.NONE);
        due(what + ": place(2, 0)", x.place(2, 0), SectorDocument.NONE);
        due(what + ": word(2, 0)", x.word(2, 0), SectorDocument.NO_WORD);
        dueNotLoaded(what, x);
    }

    /** Asks what the sample would answer otherwise when it is loaded. */
    void dueNotLoaded(String what, SectorDocument x) {
        for (int part = 0; part < 4; part++) {
            due(what + ": length(" + part + ")", x.length(part), SectorDocument.NONE);
        }
        due(what + ": unit(0)", x.unit(0), SectorDocument.NONE);
        due(what + ": bands(0)", x.bands(0), SectorDocument.NONE);
        for (int which = 0; which < 3; which++) {
            due(what + ": look(0, " + which + ")", x.look(0, which), SectorDocument.NO_WORD);
            due(what + ": style(0, " + which + ")", x.style(0, which), SectorDocument.NO_WORD);
        }
        due(what + ": depth(0)", x.depth(0), SectorDocument.NONE);
        due(what + ": shown(0)", x.shown(0), false);
    }

    void finish() {
        endSentence();
        if (wrong != 0 || asked == 0) {
            System.out.println(wrong + " of " + asked + " answers are not as due");
            System.exit(1);
        }
    }

    private void endSentence() {
        if (!sentence.isEmpty() && askedHere == 0) {
            tell("nothing is asked for it");
        }
    }

    private void tell(String what) {
        wrong++;
        System.out.println(sentence + what);
    }
}
