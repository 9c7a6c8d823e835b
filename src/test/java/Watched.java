import java.util.ArrayList;
import java.util.List;

/**
 * A OnceStores that remembers its calls. So all that can be seen of it is asked of new objects with the same calls, and
 * neither the asking changes it nor does any object have more calls than the document allows.
 */
final class Watched {
    private static final int CALLS_MOST = 512;

    private interface Call {
        int on(OnceStores x);
    }

    private final OnceStores real = new OnceStores();
    private final List<Call> calls = new ArrayList<>();

    private int call(Call c) {
        if (calls.size() >= CALLS_MOST) {
            throw new IllegalStateException("nothing is promised behind call " + CALLS_MOST);
        }
        calls.add(c);
        return c.on(real);
    }

    int feed(int a, int b, int c, int d, int e) {
        return call(x -> x.feed(a, b, c, d, e));
    }

    int cut(int n) {
        return call(x -> x.cut(n));
    }

    int byteOf(int i) {
        return call(x -> x.byteOf(i));
    }

    int compare(boolean on) {
        return call(x -> x.compare(on));
    }

    int quota(int owner, int n) {
        return call(x -> x.quota(owner, n));
    }

    int file(int writer, int number) {
        return call(x -> x.file(writer, number));
    }

    int entry(int writer, int name, int number) {
        return call(x -> x.entry(writer, name, number));
    }

    int sub(int writer, int name, int k) {
        return call(x -> x.sub(writer, name, k));
    }

    int remove(int writer, int name) {
        return call(x -> x.remove(writer, name));
    }

    int commit(int writer, int owner) {
        return call(x -> x.commit(writer, owner));
    }

    int crash(int writer) {
        return call(x -> x.crash(writer));
    }

    int drop(int k) {
        return call(x -> x.drop(k));
    }

    int load(int k, int a, int b) {
        return call(x -> x.load(k, a, b));
    }

    int head(int k, int what) {
        return call(x -> x.head(k, what));
    }

    int owned(int owner) {
        return call(x -> x.owned(owner));
    }

    int clean() {
        return call(x -> x.clean());
    }

    int spoil(int pack, int place, int mask) {
        return call(x -> x.spoil(pack, place, mask));
    }

    int lie(int i, int place) {
        return call(x -> x.lie(i, place));
    }

    int anew() {
        return call(x -> x.anew());
    }

    int rotten() {
        return call(x -> x.rotten());
    }

    int broken() {
        return call(x -> x.broken());
    }

    int pack(int pack, int what) {
        return call(x -> x.pack(pack, what));
    }

    int packByte(int pack, int i) {
        return call(x -> x.packByte(pack, i));
    }

    int row(int i, int what) {
        return call(x -> x.row(i, what));
    }

    int count(int what) {
        return call(x -> x.count(what));
    }

    // ---- looking from outside

    /** Asks questions of objects that had the same calls; a new one is made as soon as one has had all its calls. */
    private final class Copies {
        private OnceStores copy;
        private int left = 0;

        int ask(Call question) {
            if (left == 0) {
                copy = new OnceStores();
                for (Call c : calls) {
                    c.on(copy);
                }
                left = CALLS_MOST - calls.size();
                if (left == 0) {
                    throw new IllegalStateException("no call is left to ask with");
                }
            }
            left--;
            return question.on(copy);
        }
    }

    int[] bytesOf(int pack) {
        Copies copies = new Copies();
        int[] bytes = new int[Math.max(0, copies.ask(x -> x.pack(pack, 0)))];
        for (int i = 0; i < bytes.length; i++) {
            int at = i;
            bytes[i] = copies.ask(x -> x.packByte(pack, at));
        }
        return bytes;
    }

    /** The row of THE INDEX for a block, or -1. */
    int rowOf(int kind, int digest) {
        Copies copies = new Copies();
        int rows = copies.ask(x -> x.count(0));
        for (int i = 0; i < rows; i++) {
            int row = i;
            if (copies.ask(x -> x.row(row, 0)) == kind && copies.ask(x -> x.row(row, 1)) == digest) {
                return i;
            }
        }
        return -1;
    }

    /** Rows and PACKS: all that a call may change by FINDING and KEEPING. */
    String diskAndIndex() {
        Copies copies = new Copies();
        StringBuilder b = new StringBuilder();
        int rows = copies.ask(x -> x.count(0));
        for (int i = 0; i < rows; i++) {
            int row = i;
            b.append("row");
            for (int what = 0; what < 4; what++) {
                int w = what;
                b.append(' ').append(copies.ask(x -> x.row(row, w)));
            }
            b.append('\n');
        }
        for (int p = 0; p < 14; p++) {
            int pack = p;
            b.append("pack ").append(copies.ask(x -> x.pack(pack, 0)));
            for (int one : bytesOf(pack)) {
                b.append(' ').append(one);
            }
            b.append('\n');
        }
        return b.toString();
    }

    /** All that can be seen, but for what FILES and entries name. */
    String picture() {
        Copies copies = new Copies();
        StringBuilder b = new StringBuilder(diskAndIndex());
        int tape = copies.ask(x -> x.count(4));
        for (int i = 0; i < tape; i++) {
            int at = i;
            b.append(copies.ask(x -> x.byteOf(at))).append(' ');
        }
        int heads = copies.ask(x -> x.count(2));
        for (int i = 0; i < heads; i++) {
            int k = i;
            b.append("\nhead ").append(copies.ask(x -> x.head(k, 0)));
        }
        b.append("\nmade ").append(copies.ask(x -> x.count(3)));
        b.append("\ncompare ").append(copies.ask(x -> x.compare(true)));
        for (int i = 0; i < 4; i++) {
            int owner = i;
            b.append("\nquota ").append(copies.ask(x -> x.quota(owner, 0)));
        }
        for (int i = 0; i < 2; i++) {
            b.append(work(i));
        }
        return b.toString();
    }

    private String work(int writer) {
        Copies copies = new Copies();
        StringBuilder b = new StringBuilder("\nfiles");
        for (int i = 0; i < 10; i++) {
            int number = i;
            b.append(copies.ask(x -> x.entry(writer, 0, number)) == OnceStores.BAD ? "" : " " + number);
        }
        copies = new Copies();
        b.append("\nentries ").append(copies.ask(x -> x.count(5 + writer))).append(':');
        for (int i = 0; i < 256; i++) {
            int name = i;
            b.append(copies.ask(x -> x.remove(writer, name)) == OnceStores.BAD ? "" : " " + name);
        }
        return b.toString();
    }
}
