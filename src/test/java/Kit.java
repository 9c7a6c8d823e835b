import java.util.ArrayList;
import java.util.List;
import java.util.function.IntSupplier;

/** What the tests share: answers that are due, rows of bytes, small stores, and RECORDS that are forged by spoiling. */
abstract class Kit {
    static final int BAD = -1, NONE = -2, FULL = -3, CLASH = -4, MISSING = -5, OVER = -6;
    static final int PIECE = 1, LIST = 2, TREE = 3, SNAPSHOT = 4;
    static final int LEAST = Integer.MIN_VALUE, GREATEST = Integer.MAX_VALUE;

    /** Two PIECES of four bytes with one digest. */
    static final int[] TWIN = {0, 45, 3, 0}, OTHER_TWIN = {0, 45, 2, 33};

    private static int wrong = 0;
    private static int looked = 0;
    private static String about = "";

    // ---- answers

    /** A test of what these words say. */
    static void test(String words, Runnable test) {
        about = words;
        try {
            test.run();
        } catch (RuntimeException e) {
            wrong++;
            System.out.println(about + ": " + e);
        }
    }

    static void due(String what, int got, int want) {
        looked++;
        if (got != want) {
            wrong++;
            System.out.println(about + ": " + what + " answered " + got + ", due is " + want);
        }
    }

    static void same(String what, String got, String want) {
        looked++;
        if (!got.equals(want)) {
            wrong++;
            System.out.println(about + ": " + what + " is not as it was");
        }
    }

    static void dueText(String what, String got, String want) {
        looked++;
        if (!got.equals(want)) {
            wrong++;
            System.out.println(about + ": " + what + " is " + got + ", due is " + want);
        }
    }

    /** A call with this answer, behind which all is as it was. */
    static void refused(Watched x, String what, IntSupplier call, int want) {
        String before = x.picture();
        due(what, call.getAsInt(), want);
        same("all behind " + what, x.picture(), before);
    }

    static void end() {
        System.out.println(looked + " answers looked at, " + wrong + " not as due");
        if (wrong != 0) {
            System.exit(1);
        }
    }

    // ---- bytes

    static int digest(int kind, int... bytes) {
        int h = stateOf(5381 + kind, bytes, 0, bytes.length);
        return h ^ h >> 5;
    }

    /** What h is behind some of the bytes. */
    private static int stateOf(int before, int[] bytes, int from, int to) {
        int h = before;
        for (int i = from; i < to; i++) {
            h = (h * 33 ^ bytes[i]) & 65535;
        }
        return h;
    }

    static int[] joined(int[]... rows) {
        List<Integer> all = new ArrayList<>();
        for (int[] row : rows) {
            for (int b : row) {
                all.add(b);
            }
        }
        return all.stream().mapToInt(b -> b).toArray();
    }

    static int[] row(int... bytes) {
        return bytes;
    }

    /** A number of two bytes. */
    static int[] two(int n) {
        return row(n >> 8, n & 255);
    }

    /** A row of n bytes that is cut nowhere but behind 64: four of these together are never a multiple of 16. */
    static int[] uncut(int n, int salt) {
        int[] bytes = new int[n];
        for (int i = 0; i < n; i++) {
            int mixed = (i + 1) * 0x9E3779B1 + salt * 0x85EBCA6B;
            bytes[i] = 16 * ((mixed ^ mixed >>> 15) >>> 7 & 15) + (i % 4 == 0 ? 1 : 0);
        }
        return bytes;
    }

    /** Into how many PIECES these bytes are cut. */
    static int pieces(int... bytes) {
        int n = 0;
        int from = 0;
        for (int i = 0; i < bytes.length; i++) {
            int has = i - from + 1;
            boolean cut = has >= 4 && (bytes[i] + bytes[i - 1] + bytes[i - 2] + bytes[i - 3]) % 16 == 0;
            if (cut || has == 64 || i == bytes.length - 1) {
                n++;
                from = i + 1;
            }
        }
        return n;
    }

    /** The tape, which is empty before, is these bytes then. */
    static void tape(Watched x, int... bytes) {
        int fed = 0;
        while (fed < bytes.length) {
            int[] n = new int[5];
            for (int i = 0; i < 20; i++) {
                n[i / 4] = n[i / 4] << 8 | (fed + i < bytes.length ? bytes[fed + i] : 0);
            }
            fed = x.feed(n[0], n[1], n[2], n[3], n[4]);
        }
        due("cut to " + bytes.length, x.cut(fed - bytes.length), bytes.length);
    }

    static void file(Watched x, int writer, int number, int... bytes) {
        x.cut(x.count(4));
        tape(x, bytes);
        due("file has pieces", x.file(writer, number) >= 0 ? 1 : 0, 1);
    }

    // ---- blocks

    static int listOf(int n, int... pieces) {
        int[] bytes = joined(two(n), row(pieces.length));
        for (int piece : pieces) {
            bytes = joined(bytes, two(piece));
        }
        return digest(LIST, bytes);
    }

    /** The LIST of a FILE of one PIECE. */
    static int listOfOne(int... piece) {
        return listOf(piece.length, digest(PIECE, piece));
    }

    /** The TREE of one LIST under a name. */
    static int treeOf(int name, int list) {
        return digest(TREE, joined(row(name, 2), two(list)));
    }

    /** Three rising names, under which a TREE of one LIST has this DIGEST. */
    static int[] namesOfTree(int tree, int list) {
        int[] l = two(list);
        for (int a = 0; a < 254; a++) {
            for (int b = a + 1; b < 255; b++) {
                for (int c = b + 1; c < 256; c++) {
                    if (digest(TREE, a, 2, l[0], l[1], b, 2, l[0], l[1], c, 2, l[0], l[1]) == tree) {
                        return row(a, b, c);
                    }
                }
            }
        }
        throw new IllegalStateException("no such names");
    }

    static int[] record(int kind, int digest, int... bytes) {
        return joined(row(kind), two(bytes.length), two(digest), bytes);
    }

    /** A block of that KIND with a DIGEST: these bytes, where those that are -1 are chosen so. Null, if there is none. */
    static int[] forgedOrNull(int kind, int digest, int... bytes) {
        int first = 0;
        while (first < bytes.length && bytes[first] >= 0) {
            first++;
        }
        int free = 0;
        for (int b : bytes) {
            free += b < 0 ? 1 : 0;
        }
        int[] chosen = bytes.clone();
        int state = stateOf(5381 + kind, bytes, 0, first);
        for (long n = 0; n < 1L << 8 * free; n++) {
            long rest = n;
            for (int i = bytes.length - 1; i >= first; i--) {
                if (bytes[i] < 0) {
                    chosen[i] = (int) (rest & 255);
                    rest >>= 8;
                }
            }
            int h = stateOf(state, chosen, first, bytes.length);
            if ((h ^ h >> 5) == digest) {
                return chosen;
            }
        }
        return null;
    }

    static int[] forged(int kind, int digest, int... bytes) {
        int[] chosen = forgedOrNull(kind, digest, bytes);
        if (chosen == null) {
            throw new IllegalStateException("no such bytes");
        }
        return chosen;
    }

    /** A PIECE, not cut inside, whose LIST has this DIGEST. */
    static int[] pieceOfList(int list) {
        for (int n = 5; n < 64; n++) {
            int[] bytes = forgedOrNull(LIST, list, 0, n, 1, -1, -1);
            int[] piece = uncut(n, 1);
            piece[0] = piece[1] = piece[n - 1] = -1;
            piece = bytes == null ? null : forgedOrNull(PIECE, bytes[3] << 8 | bytes[4], piece);
            if (piece != null && pieces(piece) == 1) {
                return piece;
            }
        }
        return null;
    }

    /** Writes bytes over those of a PACK. */
    static void write(Watched x, int pack, int place, int... bytes) {
        int[] was = x.bytesOf(pack);
        for (int i = 0; i < bytes.length; i++) {
            int mask = was[place + i] ^ bytes[i];
            if (mask != 0) {
                due("spoil", x.spoil(pack, place + i, mask), bytes[i]);
            }
        }
    }

    /** Writes a RECORD into the room of one that has more bytes; what is left of it is a RECORD that is not RIGHT. */
    static void forge(Watched x, int pack, int place, int kind, int digest, int... bytes) {
        int[] was = x.bytesOf(pack);
        int left = (was[place + 1] << 8 | was[place + 2]) - bytes.length - 5;
        write(x, pack, place, joined(record(kind, digest, bytes), row(PIECE), two(left), two(0)));
    }

    // ---- small stores

    /** One FILE of the PIECE 0, 0, 0, 16 under the name 7, committed for owner 2: PACK 0 has 40 bytes. */
    static Watched one() {
        Watched x = new Watched();
        file(x, 0, 0, 0, 0, 0, 16);
        due("entry", x.entry(0, 7, 0), 1);
        due("commit", x.commit(0, 2), 0);
        return x;
    }

    static int onePiece() {
        return digest(PIECE, 0, 0, 0, 16);
    }

    static int oneList() {
        return listOfOne(0, 0, 0, 16);
    }

    static int oneTree() {
        return digest(TREE, joined(row(7, 2), two(oneList())));
    }

    static int oneSnapshot() {
        return digest(SNAPSHOT, joined(row(2, 0, 1, 0, 0), two(oneTree())));
    }

    /** PACKS on the disk: a SNAPSHOT of the same empty TREE in each, for owner 3. */
    static Watched disk(int packs) {
        Watched x = new Watched();
        for (int i = 0; i < packs; i++) {
            due("commit " + i, x.commit(1, 3), i);
        }
        due("packs", x.count(1), packs);
        return x;
    }

    static Watched fullDisk() {
        return disk(12);
    }

    /**
     * Twenty HEADS of WRITER 0's empty TREE. Each SNAPSHOT takes a PACK, so twenty need PACKS with more than one: PIECES in
     * PACK 0 are spoiled until they are the SNAPSHOTS of other PACKS, which then can go.
     */
    static Watched withTwentyHeads() {
        Watched x = new Watched();
        for (int i = 0; i < 8; i++) {
            file(x, 0, i, 1 + 16 * i, 0, 0, 1, 0, 0, 1);
        }
        due("eight pieces of seven and their lists", x.pack(12, 0), 8 * 22);
        for (int i = 0; i < 12; i++) {
            due("commit " + i, x.commit(0, 0), i);
        }
        for (int i = 1; i <= 8; i++) {
            write(x, 0, (i - 1) * 22, x.bytesOf(i));
        }
        due("eight packs go", x.clean(), 8);
        for (int i = 12; i < 20; i++) {
            due("commit " + i, x.commit(0, 0), i);
        }
        return x;
    }
}
