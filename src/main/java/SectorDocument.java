/**
 * Reads a document out of a file of sectors. The promises that it keeps, and the numbers of the
 * rules that open and load answer, stand in DOC.md.
 */
public final class SectorDocument {
    public static final int NONE = -1;
    public static final long NO_WORD = 1L << 40;

    private static final int MOST_SECTORS = 24;
    private static final int SECTOR_WORDS = 8;
    private static final int FILE_WORDS = MOST_SECTORS * SECTOR_WORDS;
    private static final int MOST_SMALL_SECTORS = FILE_WORDS / 2;
    private static final int MOST_TABLE_SECTORS = 3;
    private static final int MARK = 0x0D0CF11E;
    private static final int CHAIN_END = -2;
    private static final int TABLE_ENTRY = -3;

    private static final int MOST_ENTRIES = 12;
    private static final int FOLDER = 1;
    private static final int STREAM = 2;
    private static final int ROOT = 5;
    private static final int LARGE_SIZE = 16;

    private static final int BODY_NAME = 0x444F43;
    private static final int NOTES_NAME = 0x5430;
    private static final int BODY_MARK = 0xA5EC;
    private static final int LEAST_BODY = 12;
    private static final int MOST_POSITIONS = 400;
    private static final int MOST_BANDS = 12;
    private static final int MOST_BLOCKS = 12;
    private static final int MOST_STYLES = 10;

    private static final int NARROW_BIT = 1 << 30;
    private static final int FIRST_TRANSLATED = 128;
    private static final int[] TRANSLATED = {
        128, 129, 8218, 402, 8222, 8230, 8224, 8225, 710, 8240, 352, 8249, 338, 141, 142, 143,
        144, 8216, 8217, 8220, 8221, 8226, 8211, 8212, 732, 8482, 353, 8250, 339, 157, 158, 376
    };

    private static final int FIELD_BEGIN = 19;
    private static final int FIELD_SEPARATOR = 20;
    private static final int FIELD_END = 21;

    private final SectorFile file;
    private final Directory directory;
    private final SmallSectors small;
    private final Streams streams;
    private final Text text;
    private boolean isOpen;
    private boolean isLoaded;

    public SectorDocument() {
        file = new SectorFile();
        directory = new Directory(file);
        small = new SmallSectors(file);
        streams = new Streams(file, directory, small);
        text = new Text();
        isOpen = false;
        isLoaded = false;
    }

    public boolean put(int at, int a, int b, int c, int d) {
        if (at < 0 || at >= FILE_WORDS / 4) {
            return false;
        }
        file.words[4 * at] = a;
        file.words[4 * at + 1] = b;
        file.words[4 * at + 2] = c;
        file.words[4 * at + 3] = d;
        shut();
        return true;
    }

    public boolean resize(int n) {
        if (n < 1 || n > MOST_SECTORS) {
            return false;
        }
        file.sectors = n;
        shut();
        return true;
    }

    public int open() {
        shut();
        int broken = firstBrokenOfFile();
        isOpen = broken == 0;
        return broken;
    }

    public int entries() {
        return isOpen ? directory.reachedCount : NONE;
    }

    public long entry(int k, int what) {
        if (!isOpen || !directory.isReached(k)) {
            return NO_WORD;
        }
        switch (what) {
            case 0:
                return directory.nameOf(k);
            case 1:
                return directory.kindOf(k);
            case 2:
                return directory.owner[k];
            case 3:
                return directory.sizeOf(k);
            case 4:
                return directory.rankOf(k);
            default:
                return NO_WORD;
        }
    }

    public int find(int k, int name) {
        return isOpen ? directory.seek(k, name) : NONE;
    }

    public int place(int k, int i) {
        return isOpen ? streams.placeOf(k, i) : NONE;
    }

    public long word(int k, int i) {
        int at = place(k, i);
        return at == NONE ? NO_WORD : file.at(at);
    }

    public int load() {
        isLoaded = false;
        int broken = firstBrokenOfDocument();
        if (broken == 0) {
            text.settleStyles();
            text.spell();
            isLoaded = true;
        }
        return broken;
    }

    public int length(int part) {
        if (!isLoaded || part < 0 || part > 3) {
            return NONE;
        }
        return part == 3 ? text.total() : text.partLength(part);
    }

    public int unit(int p) {
        return hasPosition(p) ? text.units[p] : NONE;
    }

    public int bands(int p) {
        return hasPosition(p) ? text.bandNumbers(p) : NONE;
    }

    public long look(int p, int which) {
        return hasPosition(p) ? text.lookAt(p).part(which) : NO_WORD;
    }

    public long style(int s, int which) {
        return isLoaded && text.isStyle(s) ? text.styleLooks[s].part(which) : NO_WORD;
    }

    public int depth(int p) {
        return hasPosition(p) ? text.fieldsBefore(p).openCount : NONE;
    }

    public boolean shown(int p) {
        return hasPosition(p) && !Fields.isMark(text.units[p]) && text.fieldsBefore(p).allSeparated();
    }

    private void shut() {
        isOpen = false;
        isLoaded = false;
    }

    private boolean hasPosition(int p) {
        return isLoaded && p >= 0 && p < text.total() && p < MOST_POSITIONS;
    }

    /** Each rule is looked at only when all before it hold: the later ones read by what these found. */
    private int firstBrokenOfFile() {
        if (!file.headerHolds()) {
            return 1;
        }
        if (!file.tableHolds()) {
            return 2;
        }
        if (!directory.chainHolds()) {
            return 3;
        }
        if (!directory.linksHold()) {
            return 4;
        }
        if (!directory.entriesHold()) {
            return 5;
        }
        if (!directory.orderHolds()) {
            return 6;
        }
        if (!directory.coloursHold()) {
            return 7;
        }
        if (!small.chainsHold(directory.startOf(0), directory.sizeOf(0))) {
            return 8;
        }
        if (!streams.chainsHold()) {
            return 9;
        }
        return streams.areApart(directory.chain) ? 0 : 10;
    }

    private int firstBrokenOfDocument() {
        if (!isOpen || !takeStream(BODY_NAME, text.body) || !text.bodyHolds()) {
            return 11;
        }
        if ((text.body.at(1) & 2) != 0) {
            return 12;
        }
        if (!takeStream(NOTES_NAME + (text.body.at(1) & 1), text.notes) || !text.lengthsHold()) {
            return 13;
        }
        if (!text.piecesHold()) {
            return 14;
        }
        if (!text.pieces.limitsHold(text.total())) {
            return 15;
        }
        if (!text.pieceCellsHold()) {
            return 16;
        }
        if (!text.stylesHold()) {
            return 17;
        }
        if (!text.paragraphsHold()) {
            return 18;
        }
        if (!text.runsHold()) {
            return 19;
        }
        return text.groupsReadable() ? 0 : 20;
    }

    private boolean takeStream(int name, Words target) {
        int k = directory.seek(0, name);
        if (!streams.isStream(k)) {
            return false;
        }
        streams.copyTo(k, target);
        return true;
    }

    /** The words of the file, and the table that its header tells. */
    private static final class SectorFile {
        final int[] words;
        final int[] table;
        int sectors;

        SectorFile() {
            words = new int[FILE_WORDS];
            table = new int[MOST_SECTORS];
            sectors = 1;
        }

        int at(int place) {
            return place >= 0 && place < FILE_WORDS ? words[place] : 0;
        }

        int tableSectors() {
            return words[1];
        }

        int tableSector(int i) {
            return at(2 + i);
        }

        int directoryStart() {
            return words[5];
        }

        int smallTableStart() {
            return words[6];
        }

        boolean headerHolds() {
            int f = tableSectors();
            return sectors >= 2 && words[0] == MARK && f >= 1 && f <= MOST_TABLE_SECTORS;
        }

        boolean tableHolds() {
            int f = Math.min(tableSectors(), MOST_TABLE_SECTORS);
            for (int i = 0; i < f; i++) {
                if (!canBeMember(tableSector(i)) || isEarlierTableSector(i)) {
                    return false;
                }
            }
            readTable(f);
            for (int i = 0; i < f; i++) {
                if (table[tableSector(i)] != TABLE_ENTRY) {
                    return false;
                }
            }
            return true;
        }

        void trace(Chain chain, int start) {
            chain.follow(table, 1, memberEnd(), start);
        }

        private boolean isEarlierTableSector(int i) {
            for (int j = 0; j < i; j++) {
                if (tableSector(j) == tableSector(i)) {
                    return true;
                }
            }
            return false;
        }

        private void readTable(int f) {
            for (int e = 0; e < f * SECTOR_WORDS; e++) {
                table[e] = at(SECTOR_WORDS * tableSector(e / SECTOR_WORDS) + e % SECTOR_WORDS);
            }
        }

        private boolean canBeMember(int s) {
            return s >= 1 && s < memberEnd();
        }

        private int memberEnd() {
            return Math.min(sectors, SECTOR_WORDS * tableSectors());
        }
    }

    /** The members of a chain of sectors, or of small sectors. */
    private static final class Chain {
        final int[] members;
        int size;
        boolean sound;

        Chain() {
            members = new int[MOST_SMALL_SECTORS];
            size = 0;
            sound = false;
        }

        /**
         * Members are from low on, below end. A member that came twice would come again and again,
         * so that a chain which ends has none, and one that fills the row does not end.
         */
        void follow(int[] table, int low, int end, int start) {
            int next = start;
            size = 0;
            while (size < members.length && next >= low && next < end && next < table.length) {
                members[size] = next;
                size++;
                next = table[next];
            }
            sound = next == CHAIN_END;
        }

        int memberAt(int i) {
            return i >= 0 && i < size ? members[i] : 0;
        }

        /** The place in the file of word i of the sectors of the chain. */
        int wordPlace(int i) {
            int step = i / SECTOR_WORDS;
            return i >= 0 && step < size ? SECTOR_WORDS * members[step] + i % SECTOR_WORDS : 0;
        }

        /** Marks the members as taken; false when one was so before. */
        boolean claim(boolean[] taken) {
            for (int i = 0; i < size; i++) {
                int s = members[i];
                if (s >= taken.length || taken[s]) {
                    return false;
                }
                taken[s] = true;
            }
            return true;
        }
    }

    /** The entries, which of them are reached, and the trees that they make. */
    private static final class Directory {
        final Chain chain;
        final int[] owner;
        int reachedCount;
        private final SectorFile file;
        private final int[] names;
        private final int[] forms;
        private final int[] starts;
        private final int[] sizes;
        private final boolean[] reached;
        private final int[] order;
        private final int[] above;
        private final int[] treeBlacks;
        private int count;

        Directory(SectorFile file) {
            this.file = file;
            chain = new Chain();
            names = new int[MOST_ENTRIES];
            forms = new int[MOST_ENTRIES];
            starts = new int[MOST_ENTRIES];
            sizes = new int[MOST_ENTRIES];
            owner = new int[MOST_ENTRIES];
            reached = new boolean[MOST_ENTRIES];
            order = new int[MOST_ENTRIES];
            above = new int[MOST_ENTRIES];
            treeBlacks = new int[MOST_ENTRIES];
            reachedCount = 0;
            count = 0;
        }

        boolean isReached(int k) {
            return k >= 0 && k < count && reached[k];
        }

        boolean isInside(int k, int folder) {
            return isReached(k) && owner[k] == folder;
        }

        int nameOf(int k) {
            return names[k];
        }

        int kindOf(int k) {
            return forms[k] & 15;
        }

        int startOf(int k) {
            return starts[k];
        }

        int sizeOf(int k) {
            return sizes[k];
        }

        boolean chainHolds() {
            file.trace(chain, file.directoryStart());
            count = Math.min(2 * chain.size, MOST_ENTRIES);
            readEntries();
            return chain.sound && chain.size >= 1 && 2 * chain.size <= MOST_ENTRIES;
        }

        boolean linksHold() {
            for (int k = 0; k < MOST_ENTRIES; k++) {
                reached[k] = false;
            }
            reachedCount = 0;
            markReached(0, NONE, 0);
            if (kindOf(0) != ROOT || !reach(childOf(0), 0, 0)) {
                return false;
            }
            for (int i = 1; i < reachedCount && i < MOST_ENTRIES; i++) {
                int k = order[i];
                if (!reach(leftOf(k), owner[k], k) || !reach(rightOf(k), owner[k], k)
                        || !reach(childOf(k), k, 0)) {
                    return false;
                }
            }
            return true;
        }

        boolean entriesHold() {
            for (int i = 1; i < reachedCount; i++) {
                int k = order[i];
                boolean isFolder = kindOf(k) == FOLDER;
                boolean isBareStream = kindOf(k) == STREAM && childOf(k) == 0;
                if (!isProper(nameOf(k)) || !(isFolder || isBareStream)) {
                    return false;
                }
            }
            return true;
        }

        boolean orderHolds() {
            for (int i = 1; i < reachedCount; i++) {
                if (!standsInOrder(order[i])) {
                    return false;
                }
            }
            return true;
        }

        boolean coloursHold() {
            for (int k = 0; k < MOST_ENTRIES; k++) {
                treeBlacks[k] = NONE;
            }
            for (int i = 1; i < reachedCount; i++) {
                if (!colourHolds(order[i]) || !waysHold(order[i])) {
                    return false;
                }
            }
            return true;
        }

        int seek(int folder, int name) {
            if (!isReached(folder) || !isProper(name)) {
                return NONE;
            }
            for (int k = 1; k < count; k++) {
                if (isInside(k, folder) && compareNames(nameOf(k), name) == 0) {
                    return k;
                }
            }
            return NONE;
        }

        int rankOf(int k) {
            int rank = 0;
            for (int other = 1; other < count; other++) {
                if (isInside(other, owner[k]) && compareNames(nameOf(other), nameOf(k)) < 0) {
                    rank++;
                }
            }
            return rank;
        }

        private void readEntries() {
            for (int k = 0; k < count; k++) {
                names[k] = file.at(chain.wordPlace(4 * k));
                forms[k] = file.at(chain.wordPlace(4 * k + 1));
                starts[k] = file.at(chain.wordPlace(4 * k + 2));
                sizes[k] = file.at(chain.wordPlace(4 * k + 3));
            }
        }

        private boolean isRed(int k) {
            return (forms[k] & 16) == 0;
        }

        private int leftOf(int k) {
            return (forms[k] >>> 8) & 255;
        }

        private int rightOf(int k) {
            return (forms[k] >>> 16) & 255;
        }

        private int childOf(int k) {
            return forms[k] >>> 24;
        }

        /** Follows one link; false when it leads nowhere, or to what another link has named. */
        private boolean reach(int k, int folder, int parent) {
            if (k == 0) {
                return true;
            }
            if (k >= count || reached[k]) {
                return false;
            }
            markReached(k, folder, parent);
            return true;
        }

        /** The parent is 0 for the first of a tree: LEFT and RIGHT of entry 0 are no links. */
        private void markReached(int k, int folder, int parent) {
            reached[k] = true;
            owner[k] = folder;
            above[k] = parent;
            order[reachedCount] = k;
            reachedCount++;
        }

        private boolean standsInOrder(int k) {
            int below = k;
            for (int step = 0; step < MOST_ENTRIES && above[below] != 0; step++) {
                int x = above[below];
                int sign = compareNames(nameOf(k), nameOf(x));
                if (leftOf(x) == below ? sign >= 0 : sign <= 0) {
                    return false;
                }
                below = x;
            }
            return true;
        }

        private boolean colourHolds(int k) {
            return !isRed(k) || (above[k] != 0 && !isRed(above[k]));
        }

        /** Of the ways that end at k: they have as many black entries as those seen before in its tree. */
        private boolean waysHold(int k) {
            if (leftOf(k) != 0 && rightOf(k) != 0) {
                return true;
            }
            int blacks = blacksDownTo(k);
            int folder = owner[k];
            if (treeBlacks[folder] == NONE) {
                treeBlacks[folder] = blacks;
            }
            return treeBlacks[folder] == blacks;
        }

        private int blacksDownTo(int k) {
            int blacks = isRed(k) ? 0 : 1;
            int x = above[k];
            for (int step = 0; step < MOST_ENTRIES && x != 0; step++) {
                blacks += isRed(x) ? 0 : 1;
                x = above[x];
            }
            return blacks;
        }

        private static boolean isProper(int name) {
            int letters = letterCount(name);
            for (int i = 0; i < letters; i++) {
                int letter = (name >>> (8 * i)) & 255;
                if (letter < 33 || letter > 126) {
                    return false;
                }
            }
            return letters > 0;
        }

        private static int compareNames(int a, int b) {
            int letters = letterCount(a);
            int sign = Integer.compare(letters, letterCount(b));
            for (int i = letters - 1; i >= 0 && sign == 0; i--) {
                sign = Integer.compare(foldedLetter(a, i), foldedLetter(b, i));
            }
            return sign;
        }

        private static int letterCount(int name) {
            int letters = 0;
            for (int i = 0; i < 4; i++) {
                if (((name >>> (8 * i)) & 255) != 0) {
                    letters = i + 1;
                }
            }
            return letters;
        }

        private static int foldedLetter(int name, int i) {
            int letter = (name >>> (8 * i)) & 255;
            return letter >= 97 && letter <= 122 ? letter - 32 : letter;
        }
    }

    /** The base and the small table, in which the small chains run. */
    private static final class SmallSectors {
        final Chain base;
        final Chain tableChain;
        private final SectorFile file;
        private final int[] table;
        private int count;

        SmallSectors(SectorFile file) {
            this.file = file;
            base = new Chain();
            tableChain = new Chain();
            table = new int[FILE_WORDS];
            count = 0;
        }

        boolean chainsHold(int baseStart, int baseSize) {
            file.trace(base, baseStart);
            file.trace(tableChain, file.smallTableStart());
            if (!base.sound || !tableChain.sound) {
                return false;
            }
            if (baseSize < 0 || baseSize > SECTOR_WORDS * base.size) {
                return false;
            }
            readTable();
            count = baseSize / 2;
            return true;
        }

        void trace(Chain chain, int start) {
            chain.follow(table, 0, Math.min(count, SECTOR_WORDS * tableChain.size), start);
        }

        /** The place in the file of word i (0 or 1) of small sector q. */
        int wordPlace(int q, int i) {
            return base.wordPlace(2 * q + i);
        }

        private void readTable() {
            int size = Math.min(SECTOR_WORDS * tableChain.size, FILE_WORDS);
            for (int q = 0; q < size; q++) {
                table[q] = file.at(tableChain.wordPlace(q));
            }
        }
    }

    /** The streams of the directory: where their words are, and whose the sectors are. */
    private static final class Streams {
        private final SectorFile file;
        private final Directory directory;
        private final SmallSectors small;
        private final Chain chain;
        private final boolean[] taken;
        private final boolean[] smallTaken;

        Streams(SectorFile file, Directory directory, SmallSectors small) {
            this.file = file;
            this.directory = directory;
            this.small = small;
            chain = new Chain();
            taken = new boolean[MOST_SECTORS];
            smallTaken = new boolean[MOST_SMALL_SECTORS];
        }

        boolean isStream(int k) {
            return directory.isReached(k) && directory.kindOf(k) == STREAM;
        }

        boolean chainsHold() {
            for (int k = 1; k < MOST_ENTRIES; k++) {
                if (isStream(k) && !chainHolds(k)) {
                    return false;
                }
            }
            return true;
        }

        boolean areApart(Chain directoryChain) {
            freeAll();
            for (int i = 0; i < file.tableSectors() && i < MOST_TABLE_SECTORS; i++) {
                int s = file.tableSector(i);
                if (s >= 0 && s < MOST_SECTORS) {
                    taken[s] = true;
                }
            }
            if (!directoryChain.claim(taken) || !small.base.claim(taken)
                    || !small.tableChain.claim(taken)) {
                return false;
            }
            for (int k = 1; k < MOST_ENTRIES; k++) {
                if (isStream(k) && !claimOf(k)) {
                    return false;
                }
            }
            return true;
        }

        int placeOf(int k, int i) {
            if (!isStream(k) || i < 0 || i >= directory.sizeOf(k)) {
                return NONE;
            }
            trace(k);
            return tracedPlace(k, i);
        }

        void copyTo(int k, Words target) {
            target.count = Math.min(directory.sizeOf(k), FILE_WORDS);
            trace(k);
            for (int i = 0; i < target.count; i++) {
                target.row[i] = file.at(tracedPlace(k, i));
            }
        }

        private boolean isLarge(int k) {
            return directory.sizeOf(k) >= LARGE_SIZE;
        }

        private boolean chainHolds(int k) {
            int size = directory.sizeOf(k);
            if (size < 0) {
                return false;
            }
            trace(k);
            return chain.sound && chain.size == sectorsNeeded(k, size);
        }

        private int sectorsNeeded(int k, int size) {
            if (isLarge(k)) {
                return size / SECTOR_WORDS + (size % SECTOR_WORDS == 0 ? 0 : 1);
            }
            return size / 2 + size % 2;
        }

        private void trace(int k) {
            if (isLarge(k)) {
                file.trace(chain, directory.startOf(k));
            } else {
                small.trace(chain, directory.startOf(k));
            }
        }

        private int tracedPlace(int k, int i) {
            if (isLarge(k)) {
                return chain.wordPlace(i);
            }
            return small.wordPlace(chain.memberAt(i / 2), i % 2);
        }

        private void freeAll() {
            for (int s = 0; s < MOST_SECTORS; s++) {
                taken[s] = false;
            }
            for (int q = 0; q < MOST_SMALL_SECTORS; q++) {
                smallTaken[q] = false;
            }
        }

        private boolean claimOf(int k) {
            trace(k);
            return chain.claim(isLarge(k) ? taken : smallTaken);
        }
    }

    /** The words of one stream, in order. */
    private static final class Words {
        final int[] row;
        int count;

        Words() {
            row = new int[FILE_WORDS];
            count = 0;
        }

        boolean exists(int place) {
            return place >= 0 && place < count;
        }

        int at(int place) {
            return place >= 0 && place < count ? row[place] : 0;
        }

        int octet(int y) {
            return (at(y / 4) >>> (8 * (y % 4))) & 255;
        }
    }

    /** Bands in the notes, with a fixed number of columns. */
    private static final class Bands {
        private final Words notes;
        private final int columns;
        private int start;
        int count;

        Bands(Words notes, int columns) {
            this.notes = notes;
            this.columns = columns;
            start = 0;
            count = 0;
        }

        /** Takes the bands that begin at the place; false when not all their words are there. */
        boolean take(int place) {
            start = place;
            count = notes.at(place);
            return notes.exists(place) && count >= 1 && count <= MOST_BANDS
                && size() <= notes.count - place;
        }

        int size() {
            return 2 + count + columns * count;
        }

        boolean limitsHold(int last) {
            if (limit(0) != 0 || limit(count) != last) {
                return false;
            }
            for (int i = 0; i < count; i++) {
                if (limit(i) >= limit(i + 1)) {
                    return false;
                }
            }
            return true;
        }

        int limit(int i) {
            return notes.at(start + 1 + i);
        }

        int cell(int column, int i) {
            return notes.at(start + 2 + count + column * count + i);
        }

        int bandOf(int p) {
            int band = 0;
            for (int i = 1; i < count; i++) {
                if (limit(i) <= p) {
                    band = i;
                }
            }
            return band;
        }
    }

    /** The groups of modifiers in the notes, each told by its place; NONE stands for no group. */
    private static final class Groups {
        private final Words notes;

        Groups(Words notes) {
            this.notes = notes;
        }

        boolean isGroup(int place) {
            return notes.exists(place) && notes.at(place) >= 0
                && notes.at(place) < notes.count - place;
        }

        boolean isGroupOrNone(int place) {
            return place == NONE || isGroup(place);
        }

        boolean isReadable(int place) {
            if (place == NONE) {
                return true;
            }
            int end = endOf(place);
            int i = place + 1;
            while (i < end) {
                int span = spanAt(i, end);
                if (span < 1) {
                    return false;
                }
                i += span;
            }
            return true;
        }

        void apply(int place, Look look, Look ground) {
            if (place == NONE) {
                return;
            }
            int end = endOf(place);
            int i = place + 1;
            while (i < end) {
                int span = spanAt(i, end);
                if (span < 1) {
                    return;
                }
                applyModifier(i, span, look, ground);
                i += span;
            }
        }

        private int endOf(int place) {
            return place + 1 + notes.at(place);
        }

        private int classAt(int i) {
            return (notes.at(i) >>> 5) & 7;
        }

        /** How many words the modifier has; 0 when it is not whole or its class is none. */
        private int spanAt(int i, int end) {
            int left = end - i;
            int kind = classAt(i);
            if (kind <= 2) {
                return 1 + kind <= left ? 1 + kind : 0;
            }
            if (kind != 7 || left < 2) {
                return 0;
            }
            int more = notes.at(i + 1);
            return more >= 0 && more <= left - 2 ? 2 + more : 0;
        }

        private void applyModifier(int i, int span, Look look, Look ground) {
            int w = notes.at(i);
            int extraAt = classAt(i) == 7 ? 2 : 1;
            if ((w & 31) != 5) {
                look.modify(w & 31, w >> 8, ground);
            } else if (extraAt < span) {
                look.tone = notes.at(i + extraAt);
            }
        }
    }

    /** How a piece of text looks. */
    private static final class Look {
        private int bold;
        private int width;
        int tone;

        Look() {
            bold = 0;
            width = 20;
            tone = 0;
        }

        void becomePlain() {
            bold = 0;
            width = 20;
            tone = 0;
        }

        void become(Look other) {
            bold = other.bold;
            width = other.width;
            tone = other.tone;
        }

        long part(int which) {
            switch (which) {
                case 0:
                    return bold;
                case 1:
                    return width;
                case 2:
                    return tone;
                default:
                    return NO_WORD;
            }
        }

        void modify(int number, int operand, Look ground) {
            switch (number) {
                case 1:
                    embolden(operand, ground);
                    break;
                case 2:
                    if (operand >= 1 && operand <= 200) {
                        width = operand;
                    }
                    break;
                case 3:
                    width = Math.max(1, Math.min(200, width + operand));
                    break;
                case 4:
                    become(ground);
                    break;
                default:
                    break;
            }
        }

        private void embolden(int operand, Look ground) {
            if (operand == 0 || operand == 1) {
                bold = operand;
            } else if (operand == 128) {
                bold = ground.bold;
            } else if (operand == 129) {
                bold = 1 - ground.bold;
            }
        }
    }

    /** The fields that are open while one goes through the units of a part. */
    private static final class Fields {
        int openCount;
        private final boolean[] separated;

        Fields() {
            separated = new boolean[MOST_POSITIONS];
            openCount = 0;
        }

        static boolean isMark(int unit) {
            return unit == FIELD_BEGIN || unit == FIELD_SEPARATOR || unit == FIELD_END;
        }

        void pass(int unit) {
            if (unit == FIELD_BEGIN && openCount < separated.length) {
                separated[openCount] = false;
                openCount++;
            } else if (unit == FIELD_SEPARATOR && openCount > 0) {
                separated[openCount - 1] = true;
            } else if (unit == FIELD_END && openCount > 0) {
                openCount--;
            }
        }

        boolean allSeparated() {
            for (int i = 0; i < openCount; i++) {
                if (!separated[i]) {
                    return false;
                }
            }
            return true;
        }
    }

    /** The document in the body and the notes. */
    private static final class Text {
        final Words body;
        final Words notes;
        final Bands pieces;
        final int[] units;
        final Look[] styleLooks;
        private final Bands paragraphs;
        private final Bands runs;
        private final Groups groups;
        private final int[] blocks;
        private final boolean[] settled;
        private final Look positionLook;
        private final Look ground;
        private final Fields fields;
        private int blockCount;

        Text() {
            body = new Words();
            notes = new Words();
            pieces = new Bands(notes, 2);
            paragraphs = new Bands(notes, 2);
            runs = new Bands(notes, 1);
            groups = new Groups(notes);
            units = new int[MOST_POSITIONS];
            blocks = new int[MOST_BLOCKS];
            settled = new boolean[MOST_STYLES];
            styleLooks = new Look[MOST_STYLES];
            for (int s = 0; s < MOST_STYLES; s++) {
                styleLooks[s] = new Look();
            }
            positionLook = new Look();
            ground = new Look();
            fields = new Fields();
            blockCount = 0;
        }

        boolean bodyHolds() {
            return body.count >= LEAST_BODY && body.at(0) == BODY_MARK;
        }

        int partLength(int part) {
            return body.at(2 + part);
        }

        int total() {
            return partLength(0) + partLength(1) + partLength(2);
        }

        boolean lengthsHold() {
            for (int part = 0; part < 3; part++) {
                if (partLength(part) < 0 || partLength(part) > MOST_POSITIONS) {
                    return false;
                }
            }
            return total() <= MOST_POSITIONS;
        }

        boolean piecesHold() {
            int from = body.at(5);
            int size = body.at(6);
            if (from < 0 || size < 0 || size > notes.count - from) {
                return false;
            }
            int end = from + size;
            int at = from;
            blockCount = 0;
            while (blockCount < MOST_BLOCKS && at < end && notes.at(at) == 1) {
                if (!groups.isGroup(at + 1)) {
                    return false;
                }
                blocks[blockCount] = at + 1;
                blockCount++;
                at += 2 + notes.at(at + 1);
            }
            return at < end && notes.at(at) == 2 && pieces.take(at + 1)
                && at + 1 + pieces.size() == end;
        }

        boolean pieceCellsHold() {
            for (int i = 0; i < pieces.count; i++) {
                int block = pieces.cell(1, i);
                if (!hasItsBytes(i) || block < 0 || block > blockCount) {
                    return false;
                }
            }
            return true;
        }

        boolean stylesHold() {
            int count = styleCount();
            if (count < 1 || count > MOST_STYLES) {
                return false;
            }
            if (body.at(7) < 0 || body.at(7) > notes.count - 2 * count) {
                return false;
            }
            for (int s = 0; s < count; s++) {
                if (!hasFirstAncestor(s) || !groups.isGroupOrNone(styleGroup(s))) {
                    return false;
                }
            }
            return true;
        }

        boolean paragraphsHold() {
            if (!paragraphs.take(body.at(9)) || !paragraphs.limitsHold(total())) {
                return false;
            }
            for (int i = 0; i < paragraphs.count; i++) {
                if (!isStyle(paragraphs.cell(0, i)) || !groups.isGroupOrNone(paragraphs.cell(1, i))) {
                    return false;
                }
            }
            return true;
        }

        boolean runsHold() {
            if (!runs.take(body.at(10)) || !runs.limitsHold(total())) {
                return false;
            }
            for (int i = 0; i < runs.count; i++) {
                if (!groups.isGroupOrNone(runs.cell(0, i))) {
                    return false;
                }
            }
            return true;
        }

        boolean groupsReadable() {
            boolean readable = true;
            for (int i = 0; i < blockCount; i++) {
                readable = readable && groups.isReadable(blocks[i]);
            }
            for (int s = 0; s < styleCount(); s++) {
                readable = readable && groups.isReadable(styleGroup(s));
            }
            for (int i = 0; i < paragraphs.count; i++) {
                readable = readable && groups.isReadable(paragraphs.cell(1, i));
            }
            for (int i = 0; i < runs.count; i++) {
                readable = readable && groups.isReadable(runs.cell(0, i));
            }
            return readable;
        }

        /** Gives each style its look, parents first: every round settles one style at least. */
        void settleStyles() {
            int count = Math.min(styleCount(), MOST_STYLES);
            for (int s = 0; s < count; s++) {
                settled[s] = false;
            }
            for (int round = 0; round < count; round++) {
                for (int s = 0; s < count; s++) {
                    settle(s);
                }
            }
        }

        /** Keeps the units: going through the fields asks for many of them at once. */
        void spell() {
            for (int i = 0; i < pieces.count; i++) {
                spellPiece(i);
            }
        }

        boolean isStyle(int s) {
            return s >= 0 && s < styleCount() && s < MOST_STYLES;
        }

        int bandNumbers(int p) {
            return pieces.bandOf(p) + 16 * paragraphs.bandOf(p) + 256 * runs.bandOf(p)
                + 4096 * partOf(p);
        }

        Look lookAt(int p) {
            int paragraph = paragraphs.bandOf(p);
            int styleNumber = paragraphs.cell(0, paragraph);
            if (isStyle(styleNumber)) {
                ground.become(styleLooks[styleNumber]);
            }
            positionLook.become(ground);
            groups.apply(paragraphs.cell(1, paragraph), positionLook, ground);
            groups.apply(runs.cell(0, runs.bandOf(p)), positionLook, ground);
            groups.apply(blockGroup(pieces.cell(1, pieces.bandOf(p))), positionLook, ground);
            return positionLook;
        }

        Fields fieldsBefore(int p) {
            fields.openCount = 0;
            for (int i = partStart(partOf(p)); i < p && i < MOST_POSITIONS; i++) {
                fields.pass(units[i]);
            }
            return fields;
        }

        private int partOf(int p) {
            if (p < partLength(0)) {
                return 0;
            }
            return p < partLength(0) + partLength(1) ? 1 : 2;
        }

        private int partStart(int part) {
            int start = 0;
            for (int i = 0; i < part; i++) {
                start += partLength(i);
            }
            return start;
        }

        private int blockGroup(int block) {
            return block >= 1 && block <= blockCount ? blocks[block - 1] : NONE;
        }

        private boolean hasItsBytes(int piece) {
            int d = pieces.cell(0, piece);
            if (d < 0) {
                return false;
            }
            int lastUnit = pieces.limit(piece + 1) - pieces.limit(piece) - 1;
            return lastByte(d, lastUnit) < 4 * body.count;
        }

        private int lastByte(int d, int k) {
            int x = d & ~NARROW_BIT;
            return (d & NARROW_BIT) != 0 ? x / 2 + k : x + 2 * k + 1;
        }

        private void spellPiece(int piece) {
            int first = pieces.limit(piece);
            int d = pieces.cell(0, piece);
            for (int p = first; p < pieces.limit(piece + 1) && p < MOST_POSITIONS; p++) {
                units[p] = spellUnit(d, p - first);
            }
        }

        private int spellUnit(int d, int k) {
            int last = lastByte(d, k);
            if ((d & NARROW_BIT) == 0) {
                return body.octet(last - 1) + 256 * body.octet(last);
            }
            int translated = body.octet(last) - FIRST_TRANSLATED;
            boolean translates = translated >= 0 && translated < TRANSLATED.length;
            return translates ? TRANSLATED[translated] : body.octet(last);
        }

        private int styleCount() {
            return body.at(8);
        }

        private int parentOf(int s) {
            return notes.at(body.at(7) + 2 * s);
        }

        private int styleGroup(int s) {
            return notes.at(body.at(7) + 2 * s + 1);
        }

        /** Each step goes to a parent, so with more steps than styles one has come twice. */
        private boolean hasFirstAncestor(int s) {
            int ancestor = s;
            for (int step = 0; step < MOST_STYLES && isStyle(ancestor); step++) {
                ancestor = parentOf(ancestor);
            }
            return ancestor == NONE;
        }

        private void settle(int s) {
            int parent = parentOf(s);
            if (settled[s]) {
                return;
            }
            if (parent == NONE) {
                ground.becomePlain();
            } else if (isStyle(parent) && settled[parent]) {
                ground.become(styleLooks[parent]);
            } else {
                return;
            }
            styleLooks[s].become(ground);
            groups.apply(styleGroup(s), styleLooks[s], ground);
            settled[s] = true;
        }
    }
}
