import java.util.ArrayList;
import java.util.Arrays;
import java.util.HashMap;
import java.util.HashSet;
import java.util.List;
import java.util.Map;
import java.util.Set;
import java.util.TreeMap;

/**
 * The document once more, as plainly as can be: every PACK is read anew each time it is asked, nothing is remembered.
 * RandomRunsTest holds OnceStores against it.
 */
final class PlainStore {
    static final int BAD = -1, NONE = -2, FULL = -3, CLASH = -4, MISSING = -5, OVER = -6;

    record Block(int kind, int digest) { }

    record Found(int pack, int place, int[] bytes) { }

    record Row(int kind, int digest, int pack, int place) { }

    static final class Lost extends RuntimeException {
        Lost() {
            super(null, null, false, false);
        }
    }

    static final class Refused extends RuntimeException {
        final int answer;

        Refused(int answer) {
            super(null, null, false, false);
            this.answer = answer;
        }
    }

    private List<Integer> tape = new ArrayList<>();
    private boolean compare = true;
    private final int[] quotas = {5000, 5000, 5000, 5000};
    private final List<List<Integer>> packs = new ArrayList<>();
    private List<Row> index = new ArrayList<>();
    private final List<Integer> heads = new ArrayList<>();
    private int made;
    private final List<Map<Integer, Integer>> files = List.of(new HashMap<>(), new HashMap<>());
    private final List<TreeMap<Integer, Block>> work = List.of(new TreeMap<>(), new TreeMap<>());

    PlainStore() {
        for (int i = 0; i < 14; i++) {
            packs.add(i < 12 ? null : new ArrayList<>());
        }
    }

    static int digest(int kind, int[] bytes) {
        int h = 5381 + kind;
        for (int b : bytes) {
            h = ((33 * h) ^ b) % 65536;
        }
        return h ^ (h / 32);
    }

    // ---- packs and the index

    /** The RECORDS that reading comes to: place by place, with KIND, DIGEST and bytes. */
    private List<Object[]> read(int pack) {
        List<Object[]> records = new ArrayList<>();
        List<Integer> p = packs.get(pack);
        int at = 0;
        while (p != null && at + 5 <= p.size()) {
            int kind = p.get(at);
            int length = p.get(at + 1) * 256 + p.get(at + 2);
            if (kind < 1 || kind > 4 || at + 5 + length > p.size()) {
                break;
            }
            int[] bytes = new int[length];
            for (int i = 0; i < length; i++) {
                bytes[i] = p.get(at + 5 + i);
            }
            int told = p.get(at + 3) * 256 + p.get(at + 4);
            records.add(new Object[] {at, new Block(kind, told), bytes, told == digest(kind, bytes)});
            at += 5 + length;
        }
        return records;
    }

    private void makeAnew() {
        index = new ArrayList<>();
        Set<Block> told = new HashSet<>();
        for (int p = 0; p < 14; p++) {
            for (Object[] r : read(p)) {
                Block b = (Block) r[1];
                if ((Boolean) r[3] && told.add(b)) {
                    index.add(new Row(b.kind, b.digest, p, (Integer) r[0]));
                }
            }
        }
    }

    private Found atFirstRow(Block b) {
        for (Row row : index) {
            if (row.kind == b.kind && row.digest == b.digest) {
                for (Object[] r : read(row.pack)) {
                    if ((Integer) r[0] == row.place && r[1].equals(b) && (Boolean) r[3]) {
                        return new Found(row.pack, row.place, (int[]) r[2]);
                    }
                }
                return null;
            }
        }
        return null;
    }

    private Found find(Block b) {
        Found f = atFirstRow(b);
        if (f == null) {
            makeAnew();
            f = atFirstRow(b);
        }
        return f;
    }

    private int[] need(int kind, int digest) {
        Found f = find(new Block(kind, digest));
        if (f == null || !hasForm(kind, f.bytes)) {
            throw new Lost();
        }
        return f.bytes;
    }

    private static boolean hasForm(int kind, int[] b) {
        if (kind == 4) {
            return b.length == 7;
        }
        if (kind == 3) {
            boolean good = b.length % 4 == 0;
            for (int i = 0; good && i < b.length; i += 4) {
                good = b[i + 1] == 2 || b[i + 1] == 3;
            }
            return good;
        }
        return kind == 1 || b.length >= 3 && b.length == 3 + 2 * b[2] && two(b, 0) <= 400;
    }

    private static int two(int[] b, int at) {
        return b[at] * 256 + b[at + 1];
    }

    private int freePack() {
        for (int p = 0; p < 12; p++) {
            if (packs.get(p) == null) {
                return p;
            }
        }
        throw new Refused(FULL);
    }

    private void flush(int writer) {
        int free = freePack();
        packs.set(free, packs.get(12 + writer));
        packs.set(12 + writer, new ArrayList<>());
        index.replaceAll(r -> r.pack == 12 + writer ? new Row(r.kind, r.digest, free, r.place) : r);
    }

    private static List<Integer> record(Block b, int[] bytes) {
        List<Integer> r = new ArrayList<>(List.of(b.kind, bytes.length / 256, bytes.length % 256, b.digest / 256,
                b.digest % 256));
        for (int x : bytes) {
            r.add(x);
        }
        return r;
    }

    private int keep(int writer, int kind, int[] bytes) {
        Block b = new Block(kind, digest(kind, bytes));
        Found f = find(b);
        if (f != null) {
            if (compare && !Arrays.equals(f.bytes, bytes)) {
                throw new Refused(CLASH);
            }
            if (f.pack == 12 + 1 - writer) {
                flush(1 - writer);
            }
            return b.digest;
        }
        List<Integer> r = record(b, bytes);
        if (packs.get(12 + writer).size() + r.size() > 600) {
            flush(writer);
        }
        index.add(new Row(kind, b.digest, 12 + writer, packs.get(12 + writer).size()));
        packs.get(12 + writer).addAll(r);
        return b.digest;
    }

    // ---- what is reached

    private void count(Map<Block, Integer> all, int kind, int digest, int[] bytes) {
        all.putIfAbsent(new Block(kind, digest), bytes.length);
    }

    private void reach(int tree, Map<Block, Integer> all) {
        Set<Block> met = new HashSet<>();
        List<Block> level = List.of(new Block(3, tree));
        for (int depth = 1; !level.isEmpty(); depth++) {
            List<Block> next = new ArrayList<>();
            for (Block b : level) {
                if (!met.add(b)) {
                    continue;
                }
                if (b.kind == 3 && depth > 8) {
                    throw new Lost();
                }
                int[] bytes = need(b.kind, b.digest);
                count(all, b.kind, b.digest, bytes);
                if (b.kind == 3) {
                    for (int i = 0; i < bytes.length; i += 4) {
                        next.add(new Block(bytes[i + 1], two(bytes, i + 2)));
                    }
                } else {
                    reachPieces(bytes, all);
                }
            }
            level = next;
        }
    }

    private int[] reachPieces(int[] list, Map<Block, Integer> all) {
        List<Integer> read = new ArrayList<>();
        for (int i = 0; i < list[2]; i++) {
            int[] piece = need(1, two(list, 3 + 2 * i));
            count(all, 1, two(list, 3 + 2 * i), piece);
            for (int x : piece) {
                read.add(x);
            }
        }
        if (read.size() != two(list, 0)) {
            throw new Lost();
        }
        return read.stream().mapToInt(x -> x).toArray();
    }

    private void reachOwned(int owner, Map<Block, Integer> all) {
        for (int h : heads) {
            int[] snapshot = need(4, h);
            if (snapshot[0] == owner) {
                reach(two(snapshot, 5), all);
            }
        }
    }

    private static int sum(Map<Block, Integer> all) {
        return all.values().stream().mapToInt(x -> x).sum();
    }

    // ---- what is live

    private void live(Block b, int level, Map<Block, Integer> least, Set<Block> live) {
        if (b.kind == 3 && (level > 8 || least.getOrDefault(b, 99) <= level)) {
            return;
        }
        least.put(b, level);
        Found f = find(b);
        if (f == null) {
            return;
        }
        live.add(b);
        if (!hasForm(b.kind, f.bytes)) {
            return;
        }
        if (b.kind == 4) {
            live(new Block(3, two(f.bytes, 5)), 1, least, live);
        } else if (b.kind == 3) {
            for (int i = 0; i < f.bytes.length; i += 4) {
                live(new Block(f.bytes[i + 1], two(f.bytes, i + 2)), level + 1, least, live);
            }
        } else if (b.kind == 2) {
            for (int i = 0; i < f.bytes[2]; i++) {
                live(new Block(1, two(f.bytes, 3 + 2 * i)), 0, least, live);
            }
        }
    }

    int clean() {
        makeAnew();
        Set<Block> live = new HashSet<>();
        Map<Block, Integer> least = new HashMap<>();
        heads.forEach(h -> live(new Block(4, h), 0, least, live));
        files.forEach(f -> f.values().forEach(d -> live(new Block(2, d), 0, least, live)));
        work.forEach(t -> t.values().forEach(b -> live(b, 2, least, live)));
        int went = 0;
        List<List<Integer>> old = new ArrayList<>(packs.subList(0, 12));
        for (int p = 0; p < 12; p++) {
            if (old.get(p) == null) {
                continue;
            }
            List<Row> rows = new ArrayList<>();
            List<Integer> fresh = new ArrayList<>();
            List<Integer> starts = new ArrayList<>();
            for (Object[] r : read(p)) {
                Block b = (Block) r[1];
                Row row = new Row(b.kind, b.digest, p, (Integer) r[0]);
                if (live.contains(b) && index.contains(row)) {
                    rows.add(row);
                    starts.add(fresh.size());
                    fresh.addAll(record(b, (int[]) r[2]));
                }
            }
            if (!rows.isEmpty() && 2 * fresh.size() >= old.get(p).size()) {
                continue;
            }
            if (!rows.isEmpty()) {
                int free;
                try {
                    free = freePack();
                } catch (Refused e) {
                    return e.answer;
                }
                packs.set(free, fresh);
                for (int i = 0; i < rows.size(); i++) {
                    Row row = rows.get(i);
                    index.set(index.indexOf(row), new Row(row.kind, row.digest, free, starts.get(i)));
                }
            }
            packs.set(p, null);
            int gone = p;
            index.removeIf(r -> r.pack == gone);
            went++;
        }
        return went;
    }

    // ---- the calls

    int feed(int a, int b, int c, int d, int e) {
        if (tape.size() > 380) {
            return FULL;
        }
        for (int x : new int[] {a, b, c, d, e}) {
            tape.addAll(List.of(x >>> 24, x >>> 16 & 255, x >>> 8 & 255, x & 255));
        }
        return tape.size();
    }

    int cut(int n) {
        if (n < 0 || n > tape.size()) {
            return BAD;
        }
        tape = new ArrayList<>(tape.subList(0, tape.size() - n));
        return tape.size();
    }

    int byteOf(int i) {
        return i < 0 || i >= tape.size() ? BAD : tape.get(i);
    }

    int compare(boolean on) {
        int was = compare ? 1 : 0;
        compare = on;
        return was;
    }

    int quota(int owner, int n) {
        if (owner < 0 || owner > 3 || n < 0 || n > 10000) {
            return BAD;
        }
        int was = quotas[owner];
        quotas[owner] = n;
        return was;
    }

    private static boolean isWriter(int w) {
        return w == 0 || w == 1;
    }

    int file(int writer, int number) {
        if (!isWriter(writer) || number < 0 || number > 9) {
            return BAD;
        }
        List<int[]> pieces = new ArrayList<>();
        List<Integer> piece = new ArrayList<>();
        for (int x : tape) {
            piece.add(x);
            int s = piece.size();
            if (s == 64 || s >= 4 && (piece.get(s - 1) + piece.get(s - 2) + piece.get(s - 3) + piece.get(s - 4)) % 16 == 0) {
                pieces.add(piece.stream().mapToInt(y -> y).toArray());
                piece.clear();
            }
        }
        if (!piece.isEmpty()) {
            pieces.add(piece.stream().mapToInt(y -> y).toArray());
        }
        List<Integer> list = new ArrayList<>(List.of(tape.size() / 256, tape.size() % 256, pieces.size()));
        tape = new ArrayList<>();
        try {
            for (int[] p : pieces) {
                int d = keep(writer, 1, p);
                list.add(d / 256);
                list.add(d % 256);
            }
            files.get(writer).put(number, keep(writer, 2, list.stream().mapToInt(y -> y).toArray()));
        } catch (Refused e) {
            return e.answer;
        }
        return pieces.size();
    }

    int entry(int writer, int name, int number) {
        if (!isWriter(writer) || name < 0 || name > 255 || !files.get(writer).containsKey(number)) {
            return BAD;
        }
        TreeMap<Integer, Block> t = work.get(writer);
        if (t.size() == 12 && !t.containsKey(name)) {
            return FULL;
        }
        t.put(name, new Block(2, files.get(writer).get(number)));
        return t.size();
    }

    int sub(int writer, int name, int k) {
        if (!isWriter(writer) || name < 0 || name > 255 || k < 0 || k >= heads.size()) {
            return BAD;
        }
        TreeMap<Integer, Block> t = work.get(writer);
        if (t.size() == 12 && !t.containsKey(name)) {
            return FULL;
        }
        try {
            t.put(name, new Block(3, two(need(4, heads.get(k)), 5)));
        } catch (Lost e) {
            return MISSING;
        }
        return t.size();
    }

    int remove(int writer, int name) {
        if (!isWriter(writer) || work.get(writer).remove(name) == null) {
            return BAD;
        }
        return work.get(writer).size();
    }

    int commit(int writer, int owner) {
        if (!isWriter(writer) || owner < 0 || owner > 3) {
            return BAD;
        }
        if (heads.size() == 20) {
            return FULL;
        }
        List<Integer> block = new ArrayList<>();
        work.get(writer).forEach((name, b) -> block.addAll(List.of(name, b.kind, b.digest / 256, b.digest % 256)));
        try {
            int tree = keep(writer, 3, block.stream().mapToInt(x -> x).toArray());
            Map<Block, Integer> all = new HashMap<>();
            reach(tree, all);
            reachOwned(owner, all);
            if (sum(all) > quotas[owner]) {
                return OVER;
            }
            int before = heads.isEmpty() ? 0 : heads.get(heads.size() - 1);
            int number = made + 1;
            int snapshot = keep(writer, 4, new int[] {owner, number / 256, number % 256, before / 256, before % 256,
                tree / 256, tree % 256});
            for (int w = 0; w < 2; w++) {
                if (!packs.get(12 + w).isEmpty()) {
                    flush(w);
                }
            }
            heads.add(snapshot);
            made = number;
            return heads.size() - 1;
        } catch (Lost e) {
            return MISSING;
        } catch (Refused e) {
            return e.answer;
        }
    }

    int crash(int writer) {
        if (!isWriter(writer)) {
            return BAD;
        }
        int size = packs.get(12 + writer).size();
        packs.set(12 + writer, new ArrayList<>());
        index.removeIf(r -> r.pack == 12 + writer);
        files.get(writer).clear();
        work.get(writer).clear();
        return size;
    }

    int drop(int k) {
        if (k < 0 || k >= heads.size()) {
            return BAD;
        }
        heads.remove(k);
        return heads.size();
    }

    private static int[] entryOf(int[] tree, int name) {
        for (int i = 0; i < tree.length; i += 4) {
            if (tree[i] == name) {
                return new int[] {tree[i + 1], two(tree, i + 2)};
            }
        }
        return new int[] {0, 0};
    }

    int load(int k, int a, int b) {
        if (k < 0 || k >= heads.size()) {
            return BAD;
        }
        try {
            int[] entry = entryOf(need(3, two(need(4, heads.get(k)), 5)), a);
            if (b != -1) {
                if (entry[0] != 3) {
                    return NONE;
                }
                entry = entryOf(need(3, entry[1]), b);
            }
            if (entry[0] != 2) {
                return NONE;
            }
            int[] bytes = reachPieces(need(2, entry[1]), new HashMap<>());
            tape = new ArrayList<>();
            for (int x : bytes) {
                tape.add(x);
            }
            return tape.size();
        } catch (Lost e) {
            tape = new ArrayList<>();
            return MISSING;
        }
    }

    int head(int k, int what) {
        if (k < 0 || k >= heads.size() || what < 0 || what > 6) {
            return BAD;
        }
        if (what == 0) {
            return heads.get(k);
        }
        try {
            int[] s = need(4, heads.get(k));
            if (what == 5) {
                return need(3, two(s, 5)).length / 4;
            }
            if (what == 6) {
                Map<Block, Integer> all = new HashMap<>();
                reach(two(s, 5), all);
                return sum(all);
            }
            return what == 1 ? s[0] : two(s, 2 * what - 3);
        } catch (Lost e) {
            return MISSING;
        }
    }

    int owned(int owner) {
        if (owner < 0 || owner > 3) {
            return BAD;
        }
        try {
            Map<Block, Integer> all = new HashMap<>();
            reachOwned(owner, all);
            return sum(all);
        } catch (Lost e) {
            return MISSING;
        }
    }

    int spoil(int pack, int place, int mask) {
        if (packByte(pack, place) == BAD || mask < 1 || mask > 255) {
            return BAD;
        }
        packs.get(pack).set(place, packs.get(pack).get(place) ^ mask);
        return packs.get(pack).get(place);
    }

    int lie(int i, int place) {
        if (i < 0 || i >= index.size() || place < 0 || place > 599) {
            return BAD;
        }
        Row r = index.get(i);
        index.set(i, new Row(r.kind, r.digest, r.pack, place));
        return r.place;
    }

    int anew() {
        makeAnew();
        return index.size();
    }

    int rotten() {
        int n = 0;
        for (int p = 0; p < 12; p++) {
            n += pack(p, 1) - pack(p, 2);
        }
        return n;
    }

    int broken() {
        int bits = 0;
        for (int k = 0; k < heads.size(); k++) {
            try {
                reach(two(need(4, heads.get(k)), 5), new HashMap<>());
            } catch (Lost e) {
                bits += 1 << k;
            }
        }
        return bits;
    }

    int pack(int pack, int what) {
        if (pack < 0 || pack > 13 || what < 0 || what > 2) {
            return BAD;
        }
        if (what == 0) {
            return packs.get(pack) == null ? NONE : packs.get(pack).size();
        }
        return (int) read(pack).stream().filter(r -> what == 1 || (Boolean) r[3]).count();
    }

    int packByte(int pack, int i) {
        if (pack < 0 || pack > 13 || packs.get(pack) == null || i < 0 || i >= packs.get(pack).size()) {
            return BAD;
        }
        return packs.get(pack).get(i);
    }

    int row(int i, int what) {
        if (i < 0 || i >= index.size() || what < 0 || what > 3) {
            return BAD;
        }
        Row r = index.get(i);
        return new int[] {r.kind, r.digest, r.pack, r.place}[what];
    }

    int count(int what) {
        switch (what) {
            case 0: return index.size();
            case 1: return (int) packs.subList(0, 12).stream().filter(p -> p != null).count();
            case 2: return heads.size();
            case 3: return made;
            case 4: return tape.size();
            case 5: return work.get(0).size();
            case 6: return work.get(1).size();
            default: return BAD;
        }
    }
}
