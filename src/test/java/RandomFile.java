import java.util.ArrayList;
import java.util.Collections;
import java.util.List;
import java.util.Random;
import java.util.TreeMap;

/** A file made by chance from a seed: sound at first, as far as it can be told, then spoilt in places. */
final class RandomFile {
    final int[] words = new int[192];
    final int sectors;
    private final Random chance;
    private final List<Integer> free = new ArrayList<>();
    private final int tables;
    private final List<int[]> streams = new ArrayList<>();
    private int[] directory;
    private int[] tableSectors;
    private int[] base;
    private final List<Integer> body = new ArrayList<>();
    private final List<Integer> notes = new ArrayList<>();
    private final List<Integer> used = new ArrayList<>();
    private int entryCount = 1;
    private int[][] entries;
    private int smallCount;
    private final List<Integer> smallFree = new ArrayList<>();
    private int[] smallTable;

    RandomFile(long seed) {
        chance = new Random(seed);
        tables = chance.nextInt(4) == 0 ? 2 : 3;
        sectors = tables == 2 ? 16 : 21 + chance.nextInt(4);
        for (int s = 1; s < sectors; s++) {
            free.add(s);
        }
        Collections.shuffle(free, chance);
        makeDocument();
        makeFile();
        int spoils = chance.nextInt(4);
        for (int i = 0; i < spoils; i++) {
            spoil();
        }
    }

    private int below(int n) {
        return n <= 0 ? 0 : chance.nextInt(n);
    }

    private int[] take(int count) {
        int[] chain = new int[Math.min(count, free.size())];
        for (int i = 0; i < chain.length; i++) {
            chain[i] = free.remove(free.size() - 1);
        }
        return chain;
    }

    private void makeDocument() {
        int blocks = below(3);
        int[] lengths = {below(8), below(6), below(6)};
        int total = lengths[0] + lengths[1] + lengths[2];
        int textWords = chance.nextInt(6) == 0 ? 1 + below(3) : 4 + below(8);
        for (int i = 0; i < 12 + textWords; i++) {
            body.add(i < 12 ? 0 : textWord());
        }
        body.set(0, 0xA5EC);
        body.set(1, chance.nextInt(4) == 0 ? 1 : 0);
        for (int i = 0; i < 3; i++) {
            body.set(2 + i, lengths[i]);
        }
        int pad = below(3);
        for (int i = 0; i < pad; i++) {
            notes.add(below(5) - 2);
        }
        body.set(5, notes.size());
        for (int i = 0; i < blocks; i++) {
            notes.add(1);
            addGroup();
        }
        notes.add(2);
        addPieces(total, blocks, textWords);
        body.set(6, notes.size() - body.get(5));
        int[] groups = {-1, notes.size(), -1};
        addGroup();
        groups[2] = notes.size();
        addGroup();
        int styles = 1 + below(4);
        body.set(7, notes.size());
        body.set(8, styles);
        int turn = below(2);
        for (int s = 0; s < styles; s++) {
            notes.add(turn == 0 ? below(s + 1) - 1 : s + 1 + below(styles - s) >= styles ? -1 : s + 1);
            notes.add(groups[below(3)]);
        }
        body.set(9, notes.size());
        int count = addLimits(total);
        for (int i = 0; i < count; i++) {
            notes.add(below(styles));
        }
        for (int i = 0; i < count; i++) {
            notes.add(groups[below(3)]);
        }
        body.set(10, notes.size());
        count = addLimits(total);
        for (int i = 0; i < count; i++) {
            notes.add(groups[below(3)]);
        }
    }

    private int textWord() {
        int word = 0;
        for (int i = 0; i < 4; i++) {
            int[] kinds = {19, 20, 21, 0, 65 + below(26), 128 + below(32), below(256)};
            word = word << 8 | kinds[below(kinds.length)];
        }
        return word;
    }

    private int addLimits(int total) {
        int count = 1 + below(Math.min(3, total));
        notes.add(count);
        List<Integer> inner = new ArrayList<>();
        for (int i = 1; i < total; i++) {
            inner.add(i);
        }
        Collections.shuffle(inner, chance);
        List<Integer> limits = new ArrayList<>(inner.subList(0, Math.min(count - 1, inner.size())));
        Collections.sort(limits);
        notes.add(0);
        notes.addAll(limits);
        notes.add(total);
        return count;
    }

    private void addPieces(int total, int blocks, int textWords) {
        int at = notes.size();
        int count = addLimits(total);
        int bytes = 48 + 4 * textWords;
        for (int i = 0; i < count; i++) {
            int size = notes.get(at + 2 + i) - notes.get(at + 1 + i);
            if (chance.nextBoolean()) {
                notes.add((1 << 30) + 2 * below(bytes - size + 1) + below(2));
            } else {
                notes.add(below(bytes - 2 * size + 1));
            }
        }
        for (int i = 0; i < count; i++) {
            notes.add(below(blocks + 1));
        }
    }

    private void addGroup() {
        List<Integer> group = new ArrayList<>();
        int count = below(4);
        for (int i = 0; i < count; i++) {
            int[] operands = {0, 1, 128, 129, below(260), -below(30), chance.nextInt() >> 8};
            int kind = chance.nextInt(3) > 0 ? 0 : new int[] {1, 2, 7}[below(3)];
            int number = chance.nextInt(8) == 0 ? below(32) : 1 + below(5);
            int more = kind == 7 ? below(3) : kind;
            group.add(number | kind << 5 | operands[below(operands.length)] << 8);
            if (kind == 7) {
                group.add(more);
            }
            for (int m = 0; m < more; m++) {
                group.add(chance.nextInt(1000));
            }
        }
        notes.add(group.size());
        notes.addAll(group);
    }

    private void makeFile() {
        tableSectors = takeTables();
        words[0] = 0x0D0CF11E;
        words[1] = tables;
        System.arraycopy(tableSectors, 0, words, 2, tables);
        for (int e = 0; e < 8 * tables; e++) {
            setTable(e, -1);
        }
        for (int s : tableSectors) {
            setTable(s, -3);
        }
        int directorySectors = tables == 2 ? 2 : 2 + below(3);
        directory = link(take(directorySectors));
        words[5] = directory[0];
        entries = new int[2 * directorySectors][4];
        base = link(take(body.size() < 16 ? 2 : below(3)));
        int baseSize = Math.max(0, 8 * base.length - (body.size() < 16 ? 0 : below(3)));
        int[] small = link(take(base.length == 0 ? below(2) : 1));
        words[6] = small.length == 0 ? -2 : small[0];
        smallTable = new int[8 * small.length];
        java.util.Arrays.fill(smallTable, -1);
        smallCount = Math.min(baseSize / 2, smallTable.length);
        for (int q = 0; q < smallCount; q++) {
            smallFree.add(q);
        }
        Collections.shuffle(smallFree, chance);
        for (int s : base) {
            for (int i = 0; i < 8; i++) {
                words[8 * s + i] = chance.nextInt(5000);
            }
        }
        entries[0] = new int[] {chance.nextInt(), 5 | fillFolder(true) << 24, base.length == 0 ? -2 : base[0], baseSize};
        for (int i = 0; i < smallTable.length; i++) {
            words[8 * small[i / 8] + i % 8] = smallTable[i];
        }
        for (int k = 0; k < entries.length; k++) {
            for (int i = 0; i < 4; i++) {
                words[fieldPlace(k, i)] = entries[k][i];
                used.add(fieldPlace(k, i));
            }
        }
        for (int i = 0; i < 7; i++) {
            used.add(i);
        }
        for (int s : tableSectors) {
            used.add(8 * s + below(8));
        }
        for (int i = 0; i < smallTable.length; i++) {
            used.add(8 * small[i / 8] + i % 8);
        }
    }

    private int[] takeTables() {
        int[] taken = new int[tables];
        for (int i = 0; i < tables; i++) {
            taken[i] = free.remove(below(free.size()));
        }
        return taken;
    }

    private void setTable(int e, int value) {
        words[8 * tableSectors[e / 8] + e % 8] = value;
    }

    private int[] link(int[] chain) {
        for (int i = 0; i < chain.length; i++) {
            setTable(chain[i], i + 1 < chain.length ? chain[i + 1] : -2);
        }
        return chain;
    }

    /** Fills a folder with new entries; answers its first one. */
    private int fillFolder(boolean root) {
        TreeMap<String, Integer> names = new TreeMap<>((a, b) ->
            a.length() != b.length() ? a.length() - b.length() : a.compareTo(b));
        if (root) {
            names.put("DOC", 0x444F43);
            String notesName = body.get(1) == 1 ? "T1" : "T0";
            names.put(notesName, SampleFile.name(notesName));
        }
        int more = below(entries.length - entryCount - names.size() + 1);
        more = root ? more : Math.min(more, 3);
        for (int i = 0; i < more; i++) {
            String name = randomName();
            names.putIfAbsent(name.toUpperCase(java.util.Locale.ROOT), SampleFile.name(name));
        }
        List<Integer> numbers = new ArrayList<>();
        for (int i = 0; i < names.size(); i++) {
            numbers.add(entryCount + i);
        }
        entryCount += names.size();
        Collections.shuffle(numbers, chance);
        makeEntries(names, numbers, root, true);
        makeEntries(names, numbers, root, false);
        int levels = 0;
        while ((2 << levels) - 1 <= numbers.size()) {
            levels++;
        }
        return numbers.isEmpty() ? 0 : tree(numbers, 0, numbers.size(), levels);
    }

    /** The streams of the document first: there may not be sectors enough for all. */
    private void makeEntries(TreeMap<String, Integer> names, List<Integer> numbers, boolean root,
            boolean ofDocument) {
        int i = 0;
        for (String key : names.keySet()) {
            boolean isOfDocument = root && (key.equals("DOC") || key.equals(body.get(1) == 1 ? "T1" : "T0"));
            if (isOfDocument && ofDocument) {
                makeStream(numbers.get(i), names.get(key), key.equals("DOC") ? body : notes);
            } else if (!isOfDocument && !ofDocument) {
                makeEntry(numbers.get(i), names.get(key));
            }
            i++;
        }
    }

    private String randomName() {
        StringBuilder name = new StringBuilder();
        int length = 1 + below(4);
        for (int i = 0; i < length; i++) {
            name.append(chance.nextInt(3) > 0 ? "aAbBzZ".charAt(below(6)) : (char) (33 + below(94)));
        }
        return name.toString();
    }

    /** The levels that are full are black, what is below them red. */
    private int tree(List<Integer> numbers, int from, int to, int blackLevels) {
        if (from >= to) {
            return 0;
        }
        int middle = (from + to) / 2;
        int k = numbers.get(middle);
        int left = tree(numbers, from, middle, blackLevels - 1);
        int right = tree(numbers, middle + 1, to, blackLevels - 1);
        entries[k][1] |= (blackLevels > 0 ? 16 : 0) | left << 8 | right << 16;
        return k;
    }

    private void makeEntry(int k, int name) {
        if (chance.nextInt(3) == 0) {
            entries[k] = new int[] {name, 1 | fillFolder(false) << 24, chance.nextInt(), chance.nextInt()};
        } else {
            List<Integer> content = new ArrayList<>();
            int size = chance.nextInt(4) == 0 && free.size() > 2 ? 16 + below(9) : below(6);
            for (int i = 0; i < size && (size >= 16 || i < 2 * smallFree.size()); i++) {
                content.add(chance.nextInt());
            }
            makeStream(k, name, content);
        }
    }

    private void makeStream(int k, int name, List<Integer> content) {
        int size = content.size();
        int start;
        if (size >= 16) {
            int[] chain = link(take((size + 7) / 8));
            start = chain.length == 0 ? -2 : chain[0];
            for (int i = 0; i < size && i < 8 * chain.length; i++) {
                place(content, i, 8 * chain[i / 8] + i % 8);
            }
            streams.add(chain);
        } else {
            start = -2;
            for (int i = (size - 1) / 2; size > 0 && i >= 0 && !smallFree.isEmpty(); i--) {
                int q = smallFree.remove(0);
                smallTable[q] = start;
                start = q;
                for (int word = 2 * i; word < size && word < 2 * i + 2; word++) {
                    int inBase = 2 * q + word % 2;
                    place(content, word, 8 * base[inBase / 8] + inBase % 8);
                }
            }
        }
        entries[k] = new int[] {name, 2, start, size};
    }

    private void place(List<Integer> content, int i, int at) {
        words[at] = content.get(i);
        boolean toSpoil = content == notes || content == body && i < 12;
        if (toSpoil) {
            used.add(at);
            used.add(at);
        }
    }

    private void spoil() {
        int kind = below(5);
        if (kind == 0) {
            spoilEntries();
        } else if (kind == 1 && !streams.isEmpty()) {
            spoilChains();
        } else {
            spoilWord(chance.nextInt(6) == 0 ? below(words.length) : used.get(below(used.size())));
        }
    }

    private int fieldPlace(int k, int i) {
        return 8 * directory[(4 * k + i) / 8] + (4 * k + i) % 8;
    }

    private void spoilEntries() {
        int a = below(entryCount);
        int b = below(entryCount);
        int field = below(4);
        if (chance.nextBoolean()) {
            words[fieldPlace(a, 1)] ^= 16;
        } else if (chance.nextBoolean()) {
            words[fieldPlace(a, field)] = words[fieldPlace(b, field)];
        } else {
            int kept = words[fieldPlace(a, 0)];
            words[fieldPlace(a, 0)] = words[fieldPlace(b, 0)];
            words[fieldPlace(b, 0)] = kept;
        }
    }

    private void spoilChains() {
        int[] one = streams.get(below(streams.size()));
        int[] other = chance.nextInt(3) == 0 ? directory : streams.get(below(streams.size()));
        if (one.length > 0 && other.length > 0) {
            int at = below(one.length - 1);
            setTable(one[at], other[Math.min(other.length - 1, at + 1)]);
        }
    }

    private void spoilWord(int at) {
        switch (below(8)) {
            case 0:
                words[at]++;
                break;
            case 1:
                words[at]--;
                break;
            case 2:
                words[at] ^= 1 << below(32);
                break;
            case 3:
                words[at] = below(24);
                break;
            case 4:
                words[at] = -below(5);
                break;
            case 5:
                words[at] = words[used.get(below(used.size()))];
                break;
            case 6:
                words[at] = chance.nextBoolean() ? Integer.MAX_VALUE - below(3) : Integer.MIN_VALUE + below(3);
                break;
            default:
                words[at] ^= 1 << (5 + below(20)) | 1 << below(5);
                break;
        }
    }
}
