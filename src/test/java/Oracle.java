import java.util.ArrayList;
import java.util.HashSet;
import java.util.List;
import java.util.Set;
import java.util.function.IntPredicate;
import java.util.function.IntUnaryOperator;

/**
 * The document's words written down a second time, slowly and by other means (lists, sets, recursion,
 * exceptions), so that both can be asked the same.
 */
final class Oracle {
    static final long NO_WORD = 1L << 40;
    private static final int[] HIGH = {
        128, 129, 8218, 402, 8222, 8230, 8224, 8225, 710, 8240, 352, 8249, 338, 141, 142, 143,
        144, 8216, 8217, 8220, 8221, 8226, 8211, 8212, 732, 8482, 353, 8250, 339, 157, 158, 376
    };

    private static final class Broken extends RuntimeException {
        private static final long serialVersionUID = 1L;
        final int rule;

        Broken(int rule) {
            super(null, null, false, false);
            this.rule = rule;
        }
    }

    private record Entry(int name, int form, int start, int size) {
        int kind() {
            return form & 15;
        }

        boolean red() {
            return (form >> 4 & 1) == 0;
        }

        int left() {
            return form >> 8 & 255;
        }

        int right() {
            return form >> 16 & 255;
        }

        int child() {
            return form >> 24 & 255;
        }
    }

    private record Modifier(int number, int operand, Integer extra) { }

    private record Shape(int bold, int width, int tone) { }

    private record Band(int from, int to, int[] cells) { }

    private final int[] w;
    private final int n;
    private boolean open;
    private boolean loaded;

    private List<Entry> entries;
    private Set<Integer> reached;
    private int[] owner;
    private List<List<Integer>> contents;
    private List<List<Integer>> places;

    private List<Integer> body;
    private List<Integer> notes;
    private int total;
    private List<Integer> blocks;
    private List<Band> pieces;
    private List<Band> paragraphs;
    private List<Band> runs;
    private List<Shape> styles;

    Oracle(int[] words, int sectors) {
        w = words.clone();
        n = sectors;
    }

    private static void require(int rule, boolean holds) {
        if (!holds) {
            throw new Broken(rule);
        }
    }

    int open() {
        open = false;
        loaded = false;
        try {
            checkFile();
            open = true;
            return 0;
        } catch (Broken b) {
            return b.rule;
        }
    }

    private int table(int e) {
        return w[8 * w[2 + e / 8] + e % 8];
    }

    private static List<Integer> chain(int start, IntPredicate allowed, IntUnaryOperator next) {
        List<Integer> members = new ArrayList<>();
        int s = start;
        while (s != -2) {
            if (!allowed.test(s) || members.contains(s)) {
                return null;
            }
            members.add(s);
            s = next.applyAsInt(s);
        }
        return members;
    }

    private List<Integer> sectorChain(int start) {
        return chain(start, s -> s >= 1 && s <= n - 1 && s < 8 * w[1], this::table);
    }

    private static List<Integer> wordPlaces(List<Integer> sectors) {
        List<Integer> all = new ArrayList<>();
        for (int s : sectors) {
            for (int i = 0; i < 8; i++) {
                all.add(8 * s + i);
            }
        }
        return all;
    }

    private void checkFile() {
        require(1, n >= 2 && w[0] == 0x0D0CF11E && w[1] >= 1 && w[1] <= 3);
        List<Integer> tableSectors = new ArrayList<>();
        for (int i = 0; i < w[1]; i++) {
            tableSectors.add(w[2 + i]);
        }
        require(2, new HashSet<>(tableSectors).size() == tableSectors.size());
        require(2, tableSectors.stream().allMatch(s -> s >= 1 && s <= n - 1 && s < 8 * w[1]));
        require(2, tableSectors.stream().allMatch(s -> table(s) == -3));
        List<Integer> directory = sectorChain(w[5]);
        require(3, directory != null && directory.size() >= 1 && directory.size() <= 6);
        readEntries(directory);
        reachEntries();
        checkEntries();
        for (int k : reached) {
            require(6, inOrder(entries.get(k).child()));
        }
        for (int k : reached) {
            checkColours(entries.get(k).child());
        }
        List<Integer> base = sectorChain(entries.get(0).start());
        List<Integer> small = sectorChain(w[6]);
        int baseSize = entries.get(0).size();
        require(8, base != null && small != null && baseSize >= 0 && baseSize <= 8 * base.size());
        checkStreams(tableSectors, directory, base, small);
        fillContents();
    }

    private void readEntries(List<Integer> directory) {
        List<Integer> at = wordPlaces(directory);
        entries = new ArrayList<>();
        for (int k = 0; k < at.size() / 4; k++) {
            entries.add(new Entry(w[at.get(4 * k)], w[at.get(4 * k + 1)], w[at.get(4 * k + 2)],
                w[at.get(4 * k + 3)]));
        }
    }

    private void reachEntries() {
        require(4, entries.get(0).kind() == 5);
        reached = new HashSet<>();
        reached.add(0);
        owner = new int[entries.size()];
        owner[0] = -1;
        reach(entries.get(0).child(), 0);
    }

    private void reach(int k, int folder) {
        if (k == 0) {
            return;
        }
        require(4, k < entries.size());
        require(4, reached.add(k));
        owner[k] = folder;
        reach(entries.get(k).left(), folder);
        reach(entries.get(k).right(), folder);
        reach(entries.get(k).child(), k);
    }

    private static String letters(int name) {
        StringBuilder all = new StringBuilder();
        for (int shift = 24; shift >= 0; shift -= 8) {
            int letter = name >>> shift & 255;
            if (letter != 0 || all.length() > 0) {
                all.append((char) letter);
            }
        }
        return all.toString();
    }

    private static boolean proper(int name) {
        return letters(name).length() > 0 && letters(name).chars().allMatch(c -> c >= 33 && c <= 126);
    }

    private static int order(int a, int b) {
        String x = letters(a).toUpperCase(java.util.Locale.ROOT);
        String y = letters(b).toUpperCase(java.util.Locale.ROOT);
        return x.length() != y.length() ? x.length() - y.length() : x.compareTo(y);
    }

    private void checkEntries() {
        for (int k : reached) {
            Entry e = entries.get(k);
            require(5, k == 0 || proper(e.name()));
            require(5, k == 0 || e.kind() == 1 || e.kind() == 2 && e.child() == 0);
        }
    }

    private List<Integer> subtree(int k) {
        List<Integer> all = new ArrayList<>();
        if (k != 0) {
            all.addAll(subtree(entries.get(k).left()));
            all.add(k);
            all.addAll(subtree(entries.get(k).right()));
        }
        return all;
    }

    private boolean inOrder(int k) {
        if (k == 0) {
            return true;
        }
        Entry e = entries.get(k);
        return subtree(e.left()).stream().allMatch(i -> order(entries.get(i).name(), e.name()) < 0)
            && subtree(e.right()).stream().allMatch(i -> order(entries.get(i).name(), e.name()) > 0)
            && inOrder(e.left()) && inOrder(e.right());
    }

    private void checkColours(int first) {
        if (first == 0) {
            return;
        }
        require(7, !entries.get(first).red());
        for (int k : subtree(first)) {
            Entry e = entries.get(k);
            require(7, !(e.red() && e.left() != 0 && entries.get(e.left()).red()));
            require(7, !(e.red() && e.right() != 0 && entries.get(e.right()).red()));
        }
        require(7, ways(first, 0).size() == 1);
    }

    private Set<Integer> ways(int k, int blacks) {
        if (k == 0) {
            return Set.of(blacks);
        }
        Entry e = entries.get(k);
        int more = blacks + (e.red() ? 0 : 1);
        Set<Integer> all = new HashSet<>(ways(e.left(), more));
        all.addAll(ways(e.right(), more));
        return all;
    }

    private void checkStreams(List<Integer> tables, List<Integer> directory, List<Integer> base,
            List<Integer> small) {
        List<Integer> basePlaces = wordPlaces(base).subList(0, entries.get(0).size());
        List<Integer> smallTable = wordPlaces(small);
        List<Integer> used = new ArrayList<>(tables);
        used.addAll(directory);
        used.addAll(base);
        used.addAll(small);
        List<Integer> usedSmall = new ArrayList<>();
        places = new ArrayList<>();
        for (int k = 0; k < entries.size(); k++) {
            places.add(null);
            Entry e = entries.get(k);
            if (!reached.contains(k) || e.kind() != 2) {
                continue;
            }
            require(9, e.size() >= 0);
            List<Integer> at = new ArrayList<>();
            if (e.size() >= 16) {
                List<Integer> members = sectorChain(e.start());
                require(9, members != null && members.size() == (e.size() + 7L) / 8);
                used.addAll(members);
                at.addAll(wordPlaces(members));
            } else {
                List<Integer> members = chain(e.start(),
                    q -> q >= 0 && q < basePlaces.size() / 2 && q < smallTable.size(),
                    q -> w[smallTable.get(q)]);
                require(9, members != null && members.size() == (e.size() + 1) / 2);
                usedSmall.addAll(members);
                for (int q : members) {
                    at.add(basePlaces.get(2 * q));
                    at.add(basePlaces.get(2 * q + 1));
                }
            }
            places.set(k, at.subList(0, e.size()));
        }
        require(10, new HashSet<>(used).size() == used.size());
        require(10, new HashSet<>(usedSmall).size() == usedSmall.size());
    }

    private void fillContents() {
        contents = new ArrayList<>();
        for (int k = 0; k < entries.size(); k++) {
            contents.add(reached.contains(k) ? subtree(entries.get(k).child()) : List.of());
        }
    }

    private boolean has(int k) {
        return open && reached.contains(k);
    }

    int entries() {
        return open ? reached.size() : -1;
    }

    long entry(int k, int what) {
        if (!has(k) || what < 0 || what > 4) {
            return NO_WORD;
        }
        Entry e = entries.get(k);
        return switch (what) {
            case 0 -> e.name();
            case 1 -> e.kind();
            case 2 -> owner[k];
            case 3 -> e.size();
            default -> k == 0 ? 0 : contents.get(owner[k]).indexOf(k);
        };
    }

    int find(int k, int name) {
        if (!has(k) || !proper(name)) {
            return -1;
        }
        for (int i : contents.get(k)) {
            if (order(entries.get(i).name(), name) == 0) {
                return i;
            }
        }
        return -1;
    }

    int place(int k, int i) {
        if (!has(k) || places.get(k) == null || i < 0 || i >= places.get(k).size()) {
            return -1;
        }
        return places.get(k).get(i);
    }

    long word(int k, int i) {
        return place(k, i) == -1 ? NO_WORD : w[place(k, i)];
    }

    int load() {
        loaded = false;
        try {
            checkDocument();
            loaded = true;
            return 0;
        } catch (Broken b) {
            return b.rule;
        }
    }

    private List<Integer> stream(int rule, int name) {
        int k = find(0, name);
        require(rule, k != -1 && places.get(k) != null);
        return places.get(k).stream().map(at -> w[at]).toList();
    }

    private void checkDocument() {
        require(11, open);
        body = stream(11, 0x444F43);
        require(11, body.size() >= 12 && body.get(0) == 0xA5EC);
        require(12, (body.get(1) >> 1) % 2 == 0);
        notes = stream(13, body.get(1) % 2 == 0 ? 0x5430 : 0x5431);
        long sum = 0;
        for (int part = 0; part < 3; part++) {
            require(13, body.get(2 + part) >= 0 && body.get(2 + part) <= 400);
            sum += body.get(2 + part);
        }
        require(13, sum <= 400);
        total = (int) sum;
        readPieces();
        int styleCount = checkStyles();
        paragraphs = readBands(18, 18, body.get(9), 2);
        for (Band band : paragraphs) {
            require(18, band.cells()[0] >= 0 && band.cells()[0] < styleCount && groupOrNone(band.cells()[1]));
        }
        runs = readBands(19, 19, body.get(10), 1);
        for (Band band : runs) {
            require(19, groupOrNone(band.cells()[0]));
        }
        checkReadable(styleCount);
        styles = new ArrayList<>();
        for (int s = 0; s < styleCount; s++) {
            styles.add(styleShape(s));
        }
    }

    private boolean exist(long from, long count) {
        return from >= 0 && count >= 0 && from + count <= notes.size();
    }

    private boolean group(int o) {
        return exist(o, 1) && notes.get(o) >= 0 && exist(o, 1L + notes.get(o));
    }

    private boolean groupOrNone(int o) {
        return o == -1 || group(o);
    }

    private List<Band> readBands(int shapeRule, int limitRule, int o, int columns) {
        require(shapeRule, exist(o, 1));
        int count = notes.get(o);
        require(shapeRule, count >= 1 && count <= 12 && exist(o, 2L + count + columns * count));
        List<Band> all = new ArrayList<>();
        for (int i = 0; i < count; i++) {
            int[] cells = new int[columns];
            for (int c = 0; c < columns; c++) {
                cells[c] = notes.get(o + 1 + count + 1 + c * count + i);
            }
            all.add(new Band(notes.get(o + 1 + i), notes.get(o + 2 + i), cells));
        }
        if (limitRule != 0) {
            checkLimits(limitRule, all);
        }
        return all;
    }

    private void checkLimits(int rule, List<Band> all) {
        require(rule, all.get(0).from() == 0 && all.get(all.size() - 1).to() == total);
        require(rule, all.stream().allMatch(b -> b.from() < b.to()));
    }

    private void readPieces() {
        int at = body.get(5);
        require(14, exist(at, body.get(6)));
        int end = at + body.get(6);
        blocks = new ArrayList<>();
        while (at < end && notes.get(at) == 1) {
            require(14, group(at + 1));
            blocks.add(at + 1);
            at += 2 + notes.get(at + 1);
        }
        require(14, blocks.size() <= 12 && at < end && notes.get(at) == 2);
        pieces = readBands(14, 0, at + 1, 2);
        require(14, at + 1 + 2 + 3 * pieces.size() == end);
        checkLimits(15, pieces);
        for (Band band : pieces) {
            require(16, band.cells()[0] >= 0);
            require(16, band.cells()[1] >= 0 && band.cells()[1] <= blocks.size());
            for (int k = 0; k < band.to() - band.from(); k++) {
                for (int y : bytesOf(band.cells()[0], k)) {
                    require(16, y >= 0 && y < 4 * body.size());
                }
            }
        }
    }

    private static int[] bytesOf(int d, int k) {
        if (d >= 1 << 30) {
            return new int[] {(d - (1 << 30)) / 2 + k};
        }
        return new int[] {d + 2 * k, d + 2 * k + 1};
    }

    private int parent(int s) {
        return notes.get(body.get(7) + 2 * s);
    }

    private int styleGroup(int s) {
        return notes.get(body.get(7) + 2 * s + 1);
    }

    private int checkStyles() {
        int count = body.get(8);
        require(17, count >= 1 && count <= 10 && exist(body.get(7), 2L * count));
        for (int s = 0; s < count; s++) {
            require(17, parent(s) >= -1 && parent(s) < count);
        }
        for (int s = 0; s < count; s++) {
            Set<Integer> seen = new HashSet<>();
            for (int x = s; x != -1; x = parent(x)) {
                require(17, seen.add(x));
            }
            require(17, groupOrNone(styleGroup(s)));
        }
        return count;
    }

    private void checkReadable(int styleCount) {
        List<Integer> all = new ArrayList<>(blocks);
        for (int s = 0; s < styleCount; s++) {
            all.add(styleGroup(s));
        }
        paragraphs.forEach(b -> all.add(b.cells()[1]));
        runs.forEach(b -> all.add(b.cells()[0]));
        for (int o : all) {
            modifiers(o);
        }
    }

    private List<Modifier> modifiers(int o) {
        List<Modifier> all = new ArrayList<>();
        if (o == -1) {
            return all;
        }
        List<Integer> left = new ArrayList<>(notes.subList(o + 1, o + 1 + notes.get(o)));
        while (!left.isEmpty()) {
            int m = left.remove(0);
            int kind = m >> 5 & 7;
            require(20, kind < 3 || kind == 7);
            int more = kind;
            if (kind == 7) {
                require(20, !left.isEmpty());
                more = left.remove(0);
            }
            require(20, more >= 0 && more <= left.size());
            all.add(new Modifier(m & 31, Math.floorDiv(m, 256), more == 0 ? null : left.get(0)));
            left.subList(0, more).clear();
        }
        return all;
    }

    private Shape apply(int o, Shape to, Shape ground) {
        Shape x = to;
        for (Modifier m : modifiers(o)) {
            int v = m.operand();
            if (m.number() == 1 && v >= 0 && v <= 1) {
                x = new Shape(v, x.width(), x.tone());
            } else if (m.number() == 1 && (v == 128 || v == 129)) {
                x = new Shape(v == 128 ? ground.bold() : 1 - ground.bold(), x.width(), x.tone());
            } else if (m.number() == 2 && v >= 1 && v <= 200) {
                x = new Shape(x.bold(), v, x.tone());
            } else if (m.number() == 3) {
                int sum = x.width() + v;
                x = new Shape(x.bold(), sum < 1 ? 1 : sum > 200 ? 200 : sum, x.tone());
            } else if (m.number() == 4) {
                x = ground;
            } else if (m.number() == 5 && m.extra() != null) {
                x = new Shape(x.bold(), x.width(), m.extra());
            }
        }
        return x;
    }

    private Shape styleShape(int s) {
        Shape ground = parent(s) == -1 ? new Shape(0, 20, 0) : styleShape(parent(s));
        return apply(styleGroup(s), ground, ground);
    }

    private boolean position(int p) {
        return loaded && p >= 0 && p < total;
    }

    private static int bandNumber(List<Band> all, int p) {
        for (int i = 0; i < all.size(); i++) {
            if (all.get(i).from() <= p && p < all.get(i).to()) {
                return i;
            }
        }
        throw new IllegalStateException();
    }

    int length(int part) {
        if (!loaded || part < 0 || part > 3) {
            return -1;
        }
        return part == 3 ? total : body.get(2 + part);
    }

    int unit(int p) {
        if (!position(p)) {
            return -1;
        }
        Band band = pieces.get(bandNumber(pieces, p));
        int[] at = bytesOf(band.cells()[0], p - band.from());
        if (at.length == 2) {
            return octet(at[0]) + 256 * octet(at[1]);
        }
        int b = octet(at[0]);
        return b >= 128 && b <= 159 ? HIGH[b - 128] : b;
    }

    private int octet(int y) {
        return body.get(y / 4) >> 8 * (y % 4) & 255;
    }

    private int part(int p) {
        int end = 0;
        for (int part = 0; part < 3; part++) {
            end += body.get(2 + part);
            if (p < end) {
                return part;
            }
        }
        throw new IllegalStateException();
    }

    int bands(int p) {
        if (!position(p)) {
            return -1;
        }
        return bandNumber(pieces, p) + 16 * bandNumber(paragraphs, p) + 256 * bandNumber(runs, p)
            + 4096 * part(p);
    }

    private static long tell(Shape x, int which) {
        return which == 0 ? x.bold() : which == 1 ? x.width() : which == 2 ? x.tone() : NO_WORD;
    }

    long look(int p, int which) {
        if (!position(p)) {
            return NO_WORD;
        }
        Band paragraph = paragraphs.get(bandNumber(paragraphs, p));
        Shape ground = styles.get(paragraph.cells()[0]);
        Shape x = apply(paragraph.cells()[1], ground, ground);
        x = apply(runs.get(bandNumber(runs, p)).cells()[0], x, ground);
        int block = pieces.get(bandNumber(pieces, p)).cells()[1];
        return tell(block == 0 ? x : apply(blocks.get(block - 1), x, ground), which);
    }

    long style(int s, int which) {
        return loaded && s >= 0 && s < styles.size() ? tell(styles.get(s), which) : NO_WORD;
    }

    private List<Boolean> openBefore(int p) {
        List<Boolean> fields = new ArrayList<>();
        for (int i = 0; i < p; i++) {
            if (part(i) != part(p)) {
                continue;
            }
            int last = fields.size() - 1;
            if (unit(i) == 19) {
                fields.add(false);
            } else if (unit(i) == 20 && last >= 0) {
                fields.set(last, true);
            } else if (unit(i) == 21 && last >= 0) {
                fields.remove(last);
            }
        }
        return fields;
    }

    int depth(int p) {
        return position(p) ? openBefore(p).size() : -1;
    }

    boolean shown(int p) {
        return position(p) && (unit(p) < 19 || unit(p) > 21) && !openBefore(p).contains(false);
    }
}
