import java.util.Arrays;

/** Promise 4, rules 1 to 3, and the terms HEADER and TABLE. */
final class TableRulesTest {
    private static final Checker CHECK = new Checker();
    private static final int FIRST_FREE = 21;

    private interface Start {
        SampleFile at(SampleFile file, int s);
    }

    /** One of the chains of the sample, where it begins, and the rule that asks whether it is sound. */
    private record Kept(String name, int rule, int[] chain, Start start) { }

    private static final Kept[] CHAINS = {
        new Kept("directory", 3, SampleFile.DIRECTORY, (f, s) -> f.header(5, s)),
        new Kept("base", 8, SampleFile.BASE, (f, s) -> f.startOf(0, s)),
        new Kept("small table", 8, new int[] {SampleFile.SMALL_TABLE}, (f, s) -> f.header(6, s)),
        new Kept("body", 9, SampleFile.BODY, (f, s) -> f.startOf(2, s)),
        new Kept("notes", 9, SampleFile.NOTES, (f, s) -> f.startOf(1, s))
    };

    public static void main(String[] args) {
        rule1();
        header();
        rule2();
        table();
        membersAreInTheFile();
        membersHaveAnEntry();
        noMemberTwice();
        chainsEnd();
        emptyChains();
        rule3();
        CHECK.finish();
    }

    private static SampleFile sample() {
        return new SampleFile();
    }

    private static void due(String what, SampleFile file, int rule) {
        SectorDocument x = file.closed();
        CHECK.due(what, x.open(), rule);
        CHECK.due(what + ": is open", x.entries() != SectorDocument.NONE, rule == 0);
    }

    private static void rule1() {
        CHECK.sentence("Rule 1", "N is at least 2");
        due("one sector", sample().sectors(1), 1);
        due("one sector, a root alone", SampleFile.rootAlone(1, 2).sectors(1), 1);
        due("two sectors", SampleFile.rootAlone(1, 2).sectors(2), 3);
        CHECK.sentence("Rule 1", "word 0 of the header is the MARK");
        for (int bit = 0; bit < 32; bit++) {
            due("the mark without bit " + bit, sample().header(0, SampleFile.MARK ^ 1 << bit), 1);
        }
        for (int mark : Far.out(0, -1, SampleFile.MARK - 1, SampleFile.MARK + 1, 0x1EF10C0D)) {
            due("mark " + mark, sample().header(0, mark), 1);
        }
        CHECK.sentence("Rule 1", "F is 1 .. 3");
        due("F is 1", SampleFile.rootAlone(1, 4), 0);
        due("F is 2", SampleFile.rootAlone(2, 4), 0);
        due("F is 3", SampleFile.rootAlone(3, 4), 0);
        for (int f : Far.out(0, -1, -2, -3, 4, 5, (1 << 29) + 3, 256 + 3, 65536 + 3)) {
            due("F is " + f, sample().header(1, f), 1);
        }
        due("F is 4, and a fourth table sector", sample().header(1, 4).header(5, 4), 1);
    }

    private static void header() {
        CHECK.sentence("Terms: HEADER", "Its word 0 is the MARK 0x0D0CF11E");
        due("this mark", sample().header(0, 0x0D0CF11E), 0);
        CHECK.sentence("Terms: HEADER", "word 7 and what F leaves over are not looked at");
        for (int value : Far.out(-3, -2, -1, 0, 1, 2, 3, 4, 24)) {
            due("word 7 is " + value, sample().header(7, value), 0);
            due("F is 1, the others are " + value,
                SampleFile.rootAlone(1, 4).header(3, value).header(4, value), 0);
            due("F is 2, the other is " + value, SampleFile.rootAlone(2, 4).header(4, value), 0);
        }
    }

    private static void rule2() {
        CHECK.sentence("Rule 2", "the table sectors are different ones of 1 .. N - 1");
        for (int i = 2; i < 5; i++) {
            for (int s : Far.out(0, -1, -2, -3, 24, 25, (1 << 29) + i - 1, Integer.MIN_VALUE + i - 1)) {
                due("header word " + i + " is " + s, sample().header(i, s), 2);
            }
            for (int j = 2; j < 5; j++) {
                if (i != j) {
                    due("header word " + i + " is as " + j, sample().header(i, sample().words[j]), 2);
                }
            }
        }
        due("sector 0, whose entry is -3, in the second place", sample().header(3, 0).table(0, -3), 2);
        due("sector 0, whose entry is -3, in the last place", sample().header(4, 0).table(0, -3), 2);
        due("sector 0, whose entry is -3, of two", SampleFile.rootAlone(2, 4).header(3, 0).table(0, -3), 2);
        due("sector N - 1", lastTableSector(23), 0);
        due("sector N", lastTableSector(23).sectors(23), 2);
        due("sector N - 1 of fewer", lastTableSector(22).sectors(23), 0);
        due("three table sectors in three sectors", sample().sectors(3), 2);
        due("three table sectors in four sectors", sample().sectors(4), 3);
        CHECK.sentence("Rule 2", "each has an entry in the table");
        due("F is 1, sector 7", tableIn(1, 7), 0);
        due("F is 1, sector 8", tableIn(1, 8), 2);
        due("F is 1, sector 23", tableIn(1, 23), 2);
        due("F is 2, sector 15", tableIn(2, 15), 0);
        due("F is 2, sector 16", tableIn(2, 16), 2);
        CHECK.sentence("Rule 2", "and that is -3");
        for (int s = 1; s <= 3; s++) {
            for (int entry : Far.out(-1, -2, -4, 0, 1, 2, 3, 24, -259)) {
                due("the entry of table sector " + s + " is " + entry, sample().table(s, entry), 2);
            }
        }
    }

    /** The last sector of the sample's table moves there. */
    private static SampleFile lastTableSector(int s) {
        return sample().table(s, -3).table(3, -1).copySector(3, s).header(4, s);
    }

    /** The last of so many table sectors is s, the directory a root alone in sector 4. */
    private static SampleFile tableIn(int tables, int s) {
        SampleFile file = SampleFile.rootAlone(tables, 4).table(s, -3);
        return file.copySector(tables, s).header(1 + tables, s);
    }

    private static void table() {
        CHECK.sentence("Terms: TABLE", "it has entries 0 .. 8 * F - 1");
        for (int f = 1; f <= 3; f++) {
            due("F is " + f + ", the last entry", SampleFile.rootAlone(f, 8 * f - 1), 0);
            if (f < 3) {
                due("F is " + f + ", behind the last entry", SampleFile.rootAlone(f, 8 * f), 3);
            }
        }
        SectorDocument x = SampleFile.rootAlone(3, 20).opened();
        SampleFile.rootAlone(2, 20).putInto(x);
        CHECK.due("entry 20 of 16, after 24", x.open(), 3);
        SampleFile.rootAlone(2, 15).putInto(x);
        CHECK.due("entry 15 of 16, after 24", x.open(), 0);
        CHECK.sentence("Terms: TABLE",
            "entry e is word e mod 8 of the table sector that header word 2 + e / 8 names");
        SampleFile turned = sample().copySector(1, 0);
        turned.copySector(2, 1).copySector(3, 2).copySector(0, 3);
        turned.write(0, SampleFile.MARK, 3, 3, 1, 2, 4, 9, 0);
        due("the table's sectors turned round", turned, 0);
        due("the table's sectors turned round, and not their names", turned.header(2, 1).header(3, 2).header(4, 3), 2);
    }

    private static void membersAreInTheFile() {
        CHECK.sentence("Terms: TABLE", "each member is one of 1 .. N - 1");
        for (Kept kept : CHAINS) {
            for (int s : Far.out(0, -1, -3, -4, 24, 25, (1 << 29) + 10, Integer.MIN_VALUE + 10)) {
                due("the " + kept.name() + " begins at " + s, kept.start().at(sample(), s), kept.rule());
                for (int member : kept.chain()) {
                    due("the " + kept.name() + " goes from " + member + " to " + s,
                        sample().table(member, s), kept.rule());
                }
            }
            due("the last of the " + kept.name() + " is N - 1", lastMember(kept, 23), 0);
            due("the last of the " + kept.name() + " is N", lastMember(kept, 23).sectors(23), kept.rule());
            due("the last of the " + kept.name() + " is N - 1 of fewer", lastMember(kept, 22).sectors(23), 0);
            due("the last of the " + kept.name() + " is sector 0", lastMember(kept, 0), kept.rule());
        }
        SampleFile low = tableIn(1, 7).header(5, 1).link(1).copySector(4, 1).write(8 * 7 + 1, -2);
        due("the directory is sector 1", low, 0);
    }

    /** The last member becomes this sector, with all that the old one held; sector 0 stays the header. */
    private static SampleFile lastMember(Kept kept, int s) {
        int[] chain = kept.chain().clone();
        int old = chain[chain.length - 1];
        SampleFile file = sample();
        if (s != 0) {
            file.copySector(old, s);
        } else {
            file.withoutFolder();
        }
        chain[chain.length - 1] = s;
        file.table(old, -1).link(chain);
        return kept.start().at(file, chain[0]);
    }

    private static void membersHaveAnEntry() {
        CHECK.sentence("Terms: TABLE", "that has an entry in the table");
        due("a directory at 7 of 8 entries", SampleFile.rootAlone(1, 7), 0);
        due("a directory at 8 of 8 entries", SampleFile.rootAlone(1, 8), 3);
        due("a directory from 4 to 7", SampleFile.rootAlone(1, 4).link(4, 7), 0);
        due("a directory from 4 to 8", SampleFile.rootAlone(1, 4).link(4, 8), 3);
        due("a base at 7", lowRoot(7, -2).link(7), 0);
        due("a base at 8", lowRoot(8, -2).link(8), 8);
        due("a small table at 7", lowRoot(-2, 7).link(7), 0);
        due("a small table at 8", lowRoot(-2, 8).link(8), 8);
        due("a stream from 6 to 7", lowStream(6, 7), 0);
        due("a stream from 6 to 8", lowStream(6, 8), 9);
        due("a stream from 8 to 6", lowStream(8, 6), 9);
        due("F is 2, a directory at 15", SampleFile.rootAlone(2, 15), 0);
        due("F is 2, a directory at 16", SampleFile.rootAlone(2, 16), 3);
    }

    private static SampleFile lowRoot(int base, int smallTable) {
        SampleFile file = SampleFile.rootAlone(1, 4).header(6, smallTable);
        return file.startOf(0, base);
    }

    private static SampleFile lowStream(int first, int second) {
        SampleFile file = SampleFile.rootAlone(1, 4).formOf(0, SampleFile.form(5, false, 0, 0, 1));
        return file.entry(1, 'a', SampleFile.form(2, true, 0, 0, 0), first, 16).link(first, second);
    }

    private static void noMemberTwice() {
        CHECK.sentence("Terms: TABLE", "no member comes twice");
        for (Kept kept : CHAINS) {
            int last = kept.chain()[kept.chain().length - 1];
            for (int member : kept.chain()) {
                due("the " + kept.name() + " comes back to " + member, sample().table(last, member), kept.rule());
                due("the " + kept.name() + " stays at " + member, sample().table(member, member), kept.rule());
            }
        }
        SampleFile all = SampleFile.rootAlone(3, 4);
        int[] chain = new int[19];
        for (int i = 0; i < 19; i++) {
            chain[i] = 5 + i;
        }
        due("a base of all sectors that are left", all.link(chain).startOf(0, 5).sizeOf(0, 152), 0);
        due("a base of them that comes back to the first", all.table(23, 5), 8);
        due("a base of them that comes back to the last", all.table(23, 23), 8);
    }

    private static void chainsEnd() {
        CHECK.sentence("Terms: TABLE", "up to the member whose entry is -2");
        for (Kept kept : CHAINS) {
            int last = kept.chain()[kept.chain().length - 1];
            for (int end : new int[] {-1, -3, -4, 0, 1, 2, 3}) {
                due("the " + kept.name() + " ends in " + end, sample().table(last, end), kept.rule());
            }
            due("the " + kept.name() + " begins in the table", kept.start().at(sample(), 1), kept.rule());
            due("the " + kept.name() + " ends in what is free",
                sample().link(FIRST_FREE).table(last, FIRST_FREE), kept.rule() == 9 ? 9 : 0);
            due("the " + kept.name() + " ends in what has no end", sample().table(last, FIRST_FREE), kept.rule());
        }
    }

    private static void emptyChains() {
        CHECK.sentence("Terms: TABLE", "The CHAIN from s is empty when s is -2");
        due("no base and no small table", SampleFile.rootAlone(1, 4), 0);
        due("an empty directory", sample().header(5, -2), 3);
        due("an empty base with words", sample().withoutFolder().startOf(0, -2), 8);
        due("an empty base without words", sample().withoutFolder().startOf(0, -2).sizeOf(0, 0), 0);
        due("an empty small table and no small streams", sample().withoutFolder().header(6, -2), 0);
        due("an empty small table and small streams", sample().header(6, -2), 9);
        due("an empty body with words", sample().startOf(2, -2), 9);
        due("an empty body without words", sample().startOf(2, -2).sizeOf(2, 0), 0);
        CHECK.sentence("Terms: TABLE", "It is SOUND when it is empty");
        for (int start : new int[] {-1, -3, 0}) {
            due("a base at " + start, sample().withoutFolder().startOf(0, start).sizeOf(0, 0), 8);
            due("a small table at " + start, sample().withoutFolder().header(6, start), 8);
        }
    }

    private static void rule3() {
        CHECK.sentence("Rule 3", "the chain of the directory is sound");
        due("a directory at 0", sample().header(5, 0), 3);
        due("a directory at N", sample().header(5, 24), 3);
        due("a directory in the table", sample().header(5, 2), 3);
        due("a directory that comes back", sample().table(5, 4), 3);
        CHECK.sentence("Rule 3", "has 1 .. 6 members");
        due("no member", sample().header(5, -2), 3);
        due("no member, and nothing else", SampleFile.rootAlone(1, 4).header(5, -2), 3);
        int[] chain = {4, 6, 5, 21, 22, 23, 20, 19};
        for (int members = 1; members <= 8; members++) {
            SampleFile file = SampleFile.rootAlone(3, 4).link(Arrays.copyOf(chain, members));
            due(members + " members", file, members <= 6 ? 0 : 3);
        }
    }
}
