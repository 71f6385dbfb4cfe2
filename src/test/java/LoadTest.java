import java.util.ArrayList;
import java.util.List;

/** Promise 10: what load does, whichever rule it answers, and which of two broken rules it answers. */
final class LoadTest {
    private static final int G = SampleFile.GROUPS;
    private static final int P = SampleFile.PARAGRAPHS;
    private static final int R = SampleFile.RUNS;
    private static final int S = SampleFile.STYLES;
    private static final Checker CHECK = new Checker();

    private static final List<Fault> FAULTS = new ArrayList<>();

    public static void main(String[] args) {
        fillFaults();
        zeroWhenAllHold();
        eachRuleIsAnswered();
        theFirstOfTwoIsAnswered();
        loadedWhenZero();
        otherwiseNotLoaded();
        alsoIfOneWasLoadedBefore();
        anotherDocument();
        CHECK.finish();
    }

    private static void fault(int rule, String name, Fault.Change change) {
        FAULTS.add(new Fault(rule, name, change));
    }

    private static void fillFaults() {
        fault(11, "no body", f -> f.nameOf(2, SampleFile.name("DOD")));
        fault(11, "a body that is a folder", f -> f.formOf(2, SampleFile.form(1, false, 0, 0, 0)));
        fault(11, "another first word", f -> f.body(0, 0));
        fault(12, "bit 1 set", f -> f.body(1, 2));
        fault(13, "no notes", f -> f.nameOf(1, SampleFile.name("T2")));
        fault(13, "a length below 0", f -> f.body(4, -1));
        fault(13, "401 in all", f -> f.body(2, 400, 1, 0));
        fault(14, "pieces at -1", f -> f.body(5, -1));
        fault(14, "pieces a word too short", f -> f.body(6, 11));
        fault(14, "no word 2", f -> f.notes(3, 0));
        fault(15, "a first limit of 1", f -> f.notes(5, 1));
        fault(15, "a limit twice", f -> f.notes(6, 0));
        fault(15, "a last limit over L", f -> f.notes(7, 11));
        fault(16, "a descriptor below 0", f -> f.notes(8, -1));
        fault(16, "a unit over the end", f -> f.notes(9, 81));
        fault(16, "no such group block", f -> f.notes(11, 2));
        fault(17, "no styles", f -> f.body(8, 0));
        fault(17, "a parent itself", f -> f.notes(S, 0));
        fault(17, "a style's group at -2", f -> f.notes(S + 1, -2));
        fault(18, "paragraphs at -1", f -> f.body(9, -1));
        fault(18, "a paragraph's style -1", f -> f.notes(P + 5, -1));
        fault(18, "a paragraph's group at -2", f -> f.notes(P + 6, -2));
        fault(19, "runs at -1", f -> f.body(10, -1));
        fault(19, "a run's group at -2", f -> f.notes(R + 3, -2));
        fault(20, "a block's group", f -> f.notes(2, SampleFile.modifier(1, 3, 0)));
        fault(20, "a style's group", f -> f.notes(G + 1, SampleFile.modifier(2, 4, 0)));
        fault(20, "a paragraph's group", f -> f.notes(G + 8, SampleFile.modifier(2, 5, 0)));
        fault(20, "a run's group", f -> f.notes(G + 10, SampleFile.modifier(2, 6, 0)));
    }

    private static void dueLoaded(String what, SectorDocument x) {
        CHECK.due(what + ": length(3)", x.length(3), 10);
        CHECK.due(what + ": unit(0)", x.unit(0), 'H');
        CHECK.due(what + ": unit(9)", x.unit(9), 65535);
        CHECK.due(what + ": bands(9)", x.bands(9), 0x2011);
        CHECK.due(what + ": look(9, 1)", x.look(9, 1), 35);
        CHECK.due(what + ": style(0, 2)", x.style(0, 2), 777);
        CHECK.due(what + ": depth(9)", x.depth(9), 0);
        CHECK.due(what + ": shown(0)", x.shown(0), true);
    }

    private static void zeroWhenAllHold() {
        CHECK.sentence("Promise 10", "0 when all do");
        CHECK.due("load of the sample", new SampleFile().loadAnswer(), 0);
    }

    private static void eachRuleIsAnswered() {
        CHECK.sentence("Promise 10", "The answer is the number of the first of these rules that does not hold");
        CHECK.due("load of a closed file", new SampleFile().closed().load(), 11);
        for (Fault fault : FAULTS) {
            CHECK.due(fault.name(), fault.inSample().loadAnswer(), fault.rule());
        }
    }

    /** The fault of the earlier rule is made last, so that it is there whatever the other has changed. */
    private static void theFirstOfTwoIsAnswered() {
        CHECK.sentence("Promise 10", "the number of the first of these rules that does not hold");
        for (Fault first : FAULTS) {
            for (Fault second : FAULTS) {
                if (first.rule() < second.rule()) {
                    SampleFile file = first.in(second.inSample());
                    CHECK.due(first.name() + ", and " + second.name(), file.loadAnswer(), first.rule());
                }
            }
            SectorDocument closed = first.inSample().closed();
            CHECK.due(first.name() + " in a closed file", closed.load(), 11);
        }
        SampleFile all = new SampleFile();
        for (int i = FAULTS.size() - 1; i >= 0; i--) {
            all = FAULTS.get(i).in(all);
            CHECK.due(FAULTS.get(i).name() + ", and all later ones", all.loadAnswer(), FAULTS.get(i).rule());
        }
    }

    private static void loadedWhenZero() {
        CHECK.sentence("Promise 10", "If the answer is 0 the document is loaded afterwards");
        SectorDocument x = new SampleFile().opened();
        CHECK.dueNotLoaded("before load", x);
        CHECK.due("load", x.load(), 0);
        dueLoaded("after load", x);
        CHECK.due("load again", x.load(), 0);
        dueLoaded("after load again", x);
        CHECK.due("the file is open still", x.entries(), 6);
    }

    private static void otherwiseNotLoaded() {
        CHECK.sentence("Promise 10", "otherwise it is not");
        for (Fault fault : FAULTS) {
            SectorDocument x = fault.inSample().opened();
            CHECK.due(fault.name(), x.load(), fault.rule());
            CHECK.dueNotLoaded(fault.name(), x);
            CHECK.due("the same again", x.load(), fault.rule());
            CHECK.due("the file is open still", x.entries(), 6);
            CHECK.due("its words are there", x.word(2, 2) != SectorDocument.NO_WORD,
                x.entry(2, 1) == 2);
        }
    }

    private static void alsoIfOneWasLoadedBefore() {
        CHECK.sentence("Promise 10", "(also if one was loaded before)");
        for (Fault fault : FAULTS) {
            SectorDocument x = new SampleFile().loaded();
            fault.inSample().putInto(x);
            CHECK.due("load when closed", x.load(), 11);
            CHECK.dueClosed("load when closed", x);
            CHECK.due("open", x.open(), 0);
            CHECK.dueNotLoaded("before load", x);
            CHECK.due(fault.name(), x.load(), fault.rule());
            CHECK.dueNotLoaded(fault.name(), x);
            new SampleFile().putInto(x);
            CHECK.due("open when mended", x.open(), 0);
            CHECK.due("load when mended", x.load(), 0);
            dueLoaded("when mended", x);
        }
    }

    private static void anotherDocument() {
        CHECK.sentence("Promise 10", "If the answer is 0 the document is loaded afterwards, otherwise it is not");
        SectorDocument x = new SampleFile().loaded();
        new SampleFile().body(5, 3, 9).putInto(x);
        CHECK.due("open without the group block", x.open(), 0);
        CHECK.due("load without the group block", x.load(), 16);
        new SampleFile().body(2, 10, 0, 0).body(5, 3, 9).notes(11, 0).text(48, 'h').putInto(x);
        CHECK.due("open of another", x.open(), 0);
        CHECK.due("load of another", x.load(), 0);
        CHECK.due("its first unit", x.unit(0), 'h');
        CHECK.due("its first part", x.length(0), 10);
        CHECK.due("its last part", x.length(2), 0);
        CHECK.due("its last look", x.look(9, 0), 0);
        CHECK.due("its last bands", x.bands(9), 0x0011);
    }
}
