/**
 * The boundary cases of "3 CLEANING": a test for each sentence that names one. Most stores here begin with a FILE of much
 * weight that is given up again, so that its PACK has less than half of its bytes LIVE and is packed anew.
 */
public final class CleaningEdgesTest extends Kit {
    private static final int[] A = {0, 0, 0, 16}, B = {0, 0, 0, 32}, C = {0, 0, 0, 48};
    private static final String NOTHING = "";

    public static void main(String[] args) {
        test("LIVE: what HEADS and their SNAPSHOTS reach", CleaningEdgesTest::liveByHead);
        test("LIVE: not the SNAPSHOT before", CleaningEdgesTest::notTheOneBefore);
        test("LIVE: what FILES reach", CleaningEdgesTest::liveByFile);
        test("LIVE: what TREES in work reach", CleaningEdgesTest::liveByWork);
        test("LIVE: what TREES that are named in work reach", CleaningEdgesTest::liveBySub);
        test("it goes on behind a SNAPSHOT that is MISSING", CleaningEdgesTest::behindSnapshot);
        test("it goes on behind a TREE that is MISSING", CleaningEdgesTest::behindTree);
        test("it goes on behind a LIST that is MISSING", CleaningEdgesTest::behindList);
        test("it goes on behind a PIECE that is MISSING", CleaningEdgesTest::behindPiece);
        test("it goes on behind a LIST whose PIECES have not n bytes", CleaningEdgesTest::behindNotN);
        test("a SNAPSHOT that is not such a one is LIVE itself", CleaningEdgesTest::notSuchASnapshot);
        test("a TREE that is not such a one is LIVE itself", CleaningEdgesTest::notSuchATree);
        test("a LIST that is not such a one is LIVE itself", CleaningEdgesTest::notSuchAList);
        test("TREES beyond the eighth level are not", CleaningEdgesTest::beyondTheEighth);
        test("TREES beyond the eighth level of a TREE in work are not", CleaningEdgesTest::beyondTheEighthOfWork);
        test("LIVE: by KIND and DIGEST", CleaningEdgesTest::liveOfOneKind);
        test("PACKS 0 .. 11, by number", CleaningEdgesTest::byNumber);
        test("without a LIVE RECORD: the PACK goes, its rows too", CleaningEdgesTest::goes);
        test("a PACK without a RECORD goes", CleaningEdgesTest::goesWithoutRecords);
        test("a PACK whose RECORDS are not RIGHT goes", CleaningEdgesTest::goesWhenRotten);
        test("a RECORD that THE INDEX tells, for its KIND and DIGEST", CleaningEdgesTest::toldByTheIndex);
        test("less than half of its bytes, and just half", CleaningEdgesTest::half);
        test("half of its bytes: those that are nothing, too", CleaningEdgesTest::halfWithNothing);
        test("these come to a new PACK, in order", CleaningEdgesTest::inOrder);
        test("then the old one goes; rows follow", CleaningEdgesTest::rowsFollow);
        test("rows follow, each in its place of THE INDEX", CleaningEdgesTest::rowsStayInOrder);
        test("FULL: no PACK is free: nothing more is done", CleaningEdgesTest::full);
        test("a PACK that went ahead of it is free", CleaningEdgesTest::freeByThen);
        test("THE INDEX is made ANEW first", CleaningEdgesTest::anewFirst);
        test("PACKS of WRITERS are not cleaned", CleaningEdgesTest::openPacks);
        test("how many PACKS went", CleaningEdgesTest::howMany);
        end();
    }

    // ---- helpers

    private static Watched weighted(int writer) {
        Watched x = new Watched();
        file(x, writer, 9, uncut(384, 0));
        due("weight", x.pack(12 + writer, 0), 434);
        return x;
    }

    /** Brings a WRITER's open PACK to the DISK by a commit of the other one, of which nothing is left then but its PACK. */
    private static void toDisk(Watched x, int writer) {
        int other = 1 - writer;
        file(x, other, 0, 5);
        x.entry(other, 1, 0);
        int k = x.commit(other, 0);
        due("commit", k >= 0 ? 1 : 0, 1);
        x.drop(k);
        x.crash(other);
    }

    /** Gives the FILE of much weight up; the LIST that comes instead is in the open PACK. */
    private static void lighten(Watched x, int writer) {
        file(x, writer, 9);
    }

    /** KINDS and DIGESTS of all RECORDS on the DISK. */
    private static String onDisk(Watched x) {
        StringBuilder b = new StringBuilder();
        for (int p = 0; p < 12; p++) {
            int[] bytes = x.bytesOf(p);
            for (int i = 0; i + 5 <= bytes.length; i += 5 + bytes[i + 1] * 256 + bytes[i + 2]) {
                b.append(block(bytes[i], bytes[i + 3] << 8 | bytes[i + 4]));
            }
        }
        return b.toString();
    }

    private static String block(int kind, int digest) {
        return " " + kind + ":" + digest;
    }

    private static String pieceAndList(int... piece) {
        return block(PIECE, digest(PIECE, piece)) + block(LIST, listOfOne(piece));
    }

    // ---- what is LIVE

    private static void liveByHead() {
        Watched x = weighted(0);
        file(x, 0, 0, A);
        x.entry(0, 7, 0);
        due("commit", x.commit(0, 2), 0);
        x.crash(0);
        due("clean", x.clean(), 1);
        dueText("DISK", onDisk(x), pieceAndList(A) + block(TREE, oneTree()) + block(SNAPSHOT, oneSnapshot()));
        due("whole", x.broken(), 0);
        due("again", x.clean(), 0);
        x.drop(0);
        due("without the HEAD", x.clean(), 1);
        due("PACKS", x.count(1), 0);
    }

    private static void notTheOneBefore() {
        Watched x = one();
        due("commit", x.commit(0, 2), 1);
        due("commit", x.commit(0, 2), 2);
        due("the one before", x.head(2, 3), x.head(1, 0));
        x.drop(1);
        due("clean", x.clean(), 1);
        due("PACK 1", x.pack(1, 0), NONE);
        due("whole", x.broken(), 0);
        due("it is told all the same", x.head(1, 3) > 0 ? 1 : 0, 1);
    }

    private static void liveByFile() {
        for (int writer = 0; writer < 2; writer++) {
            Watched x = weighted(writer);
            file(x, writer, 0, A);
            file(x, writer, 8, B);
            toDisk(x, writer);
            lighten(x, writer);
            due("clean", x.clean(), 2);
            dueText("DISK", onDisk(x), pieceAndList(A) + pieceAndList(B));
            file(x, writer, 0, C);
            file(x, writer, 8, C);
            due("clean without the FILES", x.clean(), 1);
            dueText("DISK", onDisk(x), NOTHING);
        }
    }

    private static void liveByWork() {
        for (int writer = 0; writer < 2; writer++) {
            for (int left = 0; left < 2; left++) {
                Watched x = weighted(writer);
                file(x, writer, 0, A);
                x.entry(writer, 255, 0);
                file(x, writer, 0, B);
                toDisk(x, writer);
                lighten(x, writer);
                if (left == 0) {
                    due("remove", x.remove(writer, 255), 0);
                }
                due("clean", x.clean(), 2);
                dueText("DISK", onDisk(x), (left == 0 ? NOTHING : pieceAndList(A)) + pieceAndList(B));
            }
        }
    }

    private static void liveBySub() {
        Watched x = weighted(1);
        file(x, 1, 0, A);
        x.entry(1, 7, 0);
        due("commit", x.commit(1, 2), 0);
        x.sub(0, 200, 0);
        x.crash(1);
        x.drop(0);
        due("clean", x.clean(), 1);
        dueText("DISK", onDisk(x), pieceAndList(A) + block(TREE, oneTree()));
        x.remove(0, 200);
        due("clean", x.clean(), 1);
        dueText("DISK", onDisk(x), NOTHING);
    }

    /** HEADS of WRITER 0 with one FILE each under the name 7, in PACKS of much weight; the WRITER is cut off then. */
    private static Watched heads(int[]... contents) {
        Watched x = new Watched();
        for (int i = 0; i < contents.length; i++) {
            file(x, 0, 9, uncut(64, 20 + i));
            file(x, 0, 0, contents[i]);
            x.entry(0, 7, 0);
            due("commit", x.commit(0, 2), i);
        }
        x.crash(0);
        return x;
    }

    private static void behindSnapshot() {
        Watched x = heads(A, B);
        int second = x.head(1, 0);
        x.spoil(0, 79 + 19 + 9 + 5, 1);
        due("broken", x.broken(), 1);
        due("the first PACK goes, the second is packed anew", x.clean(), 2);
        dueText("DISK", onDisk(x), pieceAndList(B) + block(TREE, treeOf(7, listOfOne(B))) + block(SNAPSHOT, second));
    }

    private static void behindTree() {
        Watched x = heads(A, B);
        int first = x.head(0, 0);
        int second = x.head(1, 0);
        x.spoil(0, 79 + 19 + 5, 1);
        due("broken", x.broken(), 1);
        due("both are packed anew", x.clean(), 2);
        dueText("DISK", onDisk(x), pieceAndList(B) + block(TREE, treeOf(7, listOfOne(B))) + block(SNAPSHOT, second)
                + block(SNAPSHOT, first));
    }

    /** A HEAD of two FILES in a PACK of much weight. */
    private static Watched twoFiles(int[] first, int[] second) {
        Watched x = weighted(0);
        file(x, 0, 0, first);
        file(x, 0, 1, second);
        x.entry(0, 1, 0);
        x.entry(0, 2, 1);
        due("commit", x.commit(0, 2), 0);
        x.crash(0);
        return x;
    }

    private static String treeAndSnapshot(Watched x) {
        return block(TREE, x.head(0, 4)) + block(SNAPSHOT, x.head(0, 0));
    }

    private static void behindList() {
        Watched x = twoFiles(A, B);
        String rest = pieceAndList(B) + treeAndSnapshot(x);
        x.spoil(0, 434 + 9 + 5, 1);
        due("clean", x.clean(), 1);
        dueText("DISK", onDisk(x), rest);
    }

    private static void behindPiece() {
        Watched x = twoFiles(joined(A, C), B);
        String rest = block(PIECE, digest(PIECE, C)) + block(LIST, listOf(8, digest(PIECE, A), digest(PIECE, C)))
                + pieceAndList(B) + treeAndSnapshot(x);
        x.spoil(0, 434 + 5, 1);
        due("clean", x.clean(), 1);
        dueText("DISK", onDisk(x), rest);
    }

    private static void behindNotN() {
        Watched x = twoFiles(A, B);
        String rest = treeAndSnapshot(x);
        forge(x, 0, 0, PIECE, digest(PIECE, A), forged(PIECE, digest(PIECE, A), 1, 2, -1, -1, -1));
        x.anew();
        due("broken", x.broken(), 1);
        due("clean", x.clean(), 1);
        dueText("DISK", onDisk(x), pieceAndList(A) + pieceAndList(B) + rest);
        due("five bytes still", x.pack(1, 0), 10 + 10 + 19 + 13 + 12);
    }

    /** A forged block comes to the front of PACK 0, so THE INDEX tells it, and not the one that is behind it. */
    private static Watched withForged(int kind, int digest, int... bytes) {
        Watched x = twoFiles(A, B);
        forge(x, 0, 0, kind, digest, forged(kind, digest, bytes));
        x.anew();
        due("broken by the forged one", x.broken(), 1);
        due("clean", x.clean(), 1);
        return x;
    }

    private static void notSuchASnapshot() {
        Watched x = twoFiles(A, B);
        int snapshot = x.head(0, 0);
        int[] tree = two(x.head(0, 4));
        x = withForged(SNAPSHOT, snapshot, -1, -1, -1, 0, 0, tree[0], tree[1], 9);
        dueText("DISK", onDisk(x), block(SNAPSHOT, snapshot));
    }

    private static void notSuchATree() {
        Watched x = twoFiles(A, B);
        int tree = x.head(0, 4);
        int snapshot = x.head(0, 0);
        int[] a = two(listOfOne(A));
        x = withForged(TREE, tree, 1, 2, a[0], a[1], -1, 4, -1, -1);
        dueText("DISK", onDisk(x), block(TREE, tree) + block(SNAPSHOT, snapshot));
    }

    private static void notSuchAList() {
        Watched x = twoFiles(A, B);
        String rest = pieceAndList(B) + treeAndSnapshot(x);
        int[] a = two(digest(PIECE, A));
        x = withForged(LIST, listOfOne(A), 0, -1, 1, a[0], a[1], -1, -1);
        dueText("DISK", onDisk(x), block(LIST, listOfOne(A)) + rest);
    }

    /** The last TREE of a chain is forged, so that it names the empty TREE, one level below. */
    private static void beyondTheEighth() {
        for (int levels = 7; levels <= 8; levels++) {
            Watched x = new Watched();
            file(x, 0, 9, uncut(64, 0));
            due("the empty TREE, in PACK 1", x.commit(1, 3), 0);
            file(x, 0, 0, A);
            x.entry(0, 7, 0);
            due("commit", x.commit(0, 2), 1);
            x.remove(0, 7);
            for (int k = 2; k <= levels; k++) {
                x.sub(0, k, k - 1);
                due("commit", x.commit(0, 0), k);
                x.remove(0, k);
            }
            file(x, 1, 0, 1);
            x.entry(1, 1, 0);
            file(x, 0, 1, 2);
            x.entry(0, 1, 1);
            int[] none = two(digest(TREE));
            int[] bytes = {-1, 3, none[0], none[1], -1, 3, none[0], none[1], -1, 3, none[0], none[1]};
            forge(x, 0, 0, TREE, oneTree(), forged(TREE, oneTree(), bytes));
            x.anew();
            for (int k = levels; k > 0; k--) {
                x.drop(0);
            }
            due("a HEAD of " + levels + " levels and one more", x.broken(), levels == 8 ? 1 : 0);
            due("clean", x.clean() > 0 ? 1 : 0, 1);
            due("the forged TREE is LIVE", x.rowOf(TREE, oneTree()) >= 0 ? 1 : 0, 1);
            due("the one below the last", x.rowOf(TREE, digest(TREE)) >= 0 ? 1 : 0, levels == 8 ? 0 : 1);
        }
    }

    /** The TREE in work is the first level, so the eighth TREE below it is of the ninth. */
    private static void beyondTheEighthOfWork() {
        for (int below = 7; below <= 8; below++) {
            Watched x = one();
            x.remove(0, 7);
            for (int k = 1; k < below; k++) {
                x.sub(0, k, k - 1);
                due("commit", x.commit(0, 1), k);
                x.remove(0, k);
            }
            due("sub", x.sub(1, 99, below - 1), 1);
            x.crash(0);
            for (int left = below - 1; left >= 0; left--) {
                due("drop", x.drop(0), left);
            }
            due("clean", x.clean() > 0 ? 1 : 0, 1);
            due("the TREE " + below + " below", x.rowOf(TREE, oneTree()) >= 0 ? 1 : 0, below == 7 ? 1 : 0);
            due("its LIST", x.rowOf(LIST, oneList()) >= 0 ? 1 : 0, below == 7 ? 1 : 0);
        }
    }

    /** PIECES that nobody reaches have the DIGESTS of a LIST, a TREE and a SNAPSHOT that are LIVE. */
    private static void liveOfOneKind() {
        Watched y = twoFiles(A, B);
        String live = pieceAndList(A) + pieceAndList(B) + treeAndSnapshot(y);
        int[] digests = {listOfOne(A), y.head(0, 4), y.head(0, 0)};
        for (int digest : digests) {
            Watched x = twoFiles(A, B);
            for (int kind = PIECE; kind <= SNAPSHOT; kind++) {
                int[] other = forged(kind, digest, 1, 1, -1, -1, -1);
                if (x.rowOf(kind, digest) < 0) {
                    forge(x, 0, 69 * kind, kind, digest, other);
                }
            }
            due("three more", x.anew(), 7 + 6 - 3 + 3);
            due("clean", x.clean(), 1);
            dueText("DISK", onDisk(x), live);
        }
    }

    // ---- PACKS

    private static void byNumber() {
        Watched x = heads(A, B, C);
        due("PACKS", x.count(1), 3);
        x.drop(1);
        due("two are packed anew, one goes", x.clean(), 3);
        due("PACK 0 came to PACK 3", x.row(x.rowOf(PIECE, digest(PIECE, A)), 2), 3);
        due("PACK 2, then, to PACK 0", x.row(x.rowOf(PIECE, digest(PIECE, C)), 2), 0);
        due("PACKS", x.count(1), 2);
        due("whole", x.broken(), 0);
        due("again", x.clean(), 0);
    }

    private static void goes() {
        Watched x = one();
        x.crash(0);
        due("commit of none", x.commit(0, 1), 1);
        file(x, 0, 0, B);
        x.drop(0);
        due("clean", x.clean(), 1);
        due("it is not there", x.pack(0, 0), NONE);
        due("nor its RECORDS", x.pack(0, 1), 0);
        due("nor its bytes", x.packByte(0, 0), BAD);
        due("rows", x.count(0), 4);
        due("the rest's rows", x.row(0, 2) * 100 + x.row(1, 2) + x.row(2, 2) + x.row(3, 2), 100 + 1 + 12 + 12);
        due("its PIECE", x.rowOf(PIECE, onePiece()), -1);
        file(x, 0, 1, A);
        due("it is kept anew", x.pack(12, 0), 38);
    }

    private static void goesWithoutRecords() {
        Watched x = one();
        x.spoil(0, 0, 255);
        due("RECORDS", x.pack(0, 1), 0);
        due("clean", x.clean(), 1);
        due("PACKS", x.count(1), 0);
        due("the HEAD stays", x.count(2), 1);
        due("it is broken", x.broken(), 1);
    }

    private static void goesWhenRotten() {
        Watched x = one();
        int[] places = {5, 14, 24, 33};
        for (int place : places) {
            x.spoil(0, place, 1);
        }
        due("rotten", x.rotten(), 4);
        due("clean", x.clean(), 1);
        due("rotten", x.rotten(), 0);
        due("PACKS", x.count(1), 0);
    }

    /** PACK 1 has the PIECE of PACK 0 a second time, from when that one was rotten. */
    private static void toldByTheIndex() {
        Watched x = one();
        x.spoil(0, 8, 1);
        file(x, 1, 0, A);
        toDisk(x, 1);
        due("PACK 2 has a PIECE", x.pack(2, 0), 9);
        x.spoil(0, 8, 1);
        due("it is told still", x.row(x.rowOf(PIECE, onePiece()), 2), 2);
        due("PACK 1 goes, and PACK 2, for THE INDEX is made ANEW", x.clean(), 2);
        due("PACK 2", x.pack(2, 0), NONE);
        due("PACK 0", x.pack(0, 0), 40);
        due("whole", x.broken(), 0);
    }

    /** A PIECE of n bytes and its LIST, held by a FILE, beside a TREE and a SNAPSHOT of 21 that nobody reaches. */
    private static Watched partlyLive(int n) {
        Watched x = new Watched();
        file(x, 0, 0, uncut(n, 0));
        x.entry(0, 1, 0);
        due("commit", x.commit(0, 0), 0);
        due("bytes", x.pack(0, 0), 15 + n + 21);
        x.entry(0, 2, 0);
        x.drop(0);
        return x;
    }

    private static void half() {
        for (int n = 4; n <= 8; n++) {
            Watched x = partlyLive(n);
            due((15 + n) + " of " + (36 + n), x.clean(), n < 6 ? 1 : 0);
            due("PACK 0", x.pack(0, 0), n < 6 ? NONE : 36 + n);
            due("PACK 1", x.pack(1, 0), n < 6 ? 15 + n : NONE);
            due("rows", x.count(0), n < 6 ? 2 : 4);
        }
    }

    private static void halfWithNothing() {
        Watched x = partlyLive(6);
        x.spoil(0, 42 - 12, 255);
        due("RECORDS", x.pack(0, 1), 3);
        due("21 of 42 still", x.clean(), 0);
        x = partlyLive(5);
        x.spoil(0, 41 - 21, 255);
        due("RECORDS", x.pack(0, 1), 2);
        due("20 of 41 still", x.clean(), 1);
        due("what is nothing is gone", x.pack(1, 0), 20);
    }

    private static void inOrder() {
        Watched x = weighted(0);
        file(x, 0, 1, B);
        file(x, 0, 8, uncut(40, 3));
        file(x, 0, 0, A);
        toDisk(x, 0);
        lighten(x, 0);
        file(x, 0, 8);
        int[] old = x.bytesOf(0);
        due("clean", x.clean(), 2);
        due("bytes", x.pack(2, 0), 38);
        for (int i = 0; i < 38; i++) {
            due("byte " + i, x.packByte(2, i), old[434 + i + (i < 19 ? 0 : 55)]);
        }
    }

    private static void rowsFollow() {
        Watched x = weighted(0);
        file(x, 0, 1, B);
        file(x, 0, 0, A);
        toDisk(x, 0);
        lighten(x, 0);
        due("clean", x.clean(), 2);
        due("the old one", x.pack(0, 0), NONE);
        int[] digests = {digest(PIECE, B), listOfOne(B), digest(PIECE, A), listOfOne(A), digest(LIST, 0, 0, 0)};
        int[] packs = {2, 2, 2, 2, 12};
        int[] places = {0, 9, 19, 28, 0};
        due("rows", x.count(0), 5);
        for (int i = 0; i < 5; i++) {
            due("DIGEST of row " + i, x.row(i, 1), digests[i]);
            due("PACK of row " + i, x.row(i, 2), packs[i]);
            due("place of row " + i, x.row(i, 3), places[i]);
        }
        String before = x.diskAndIndex();
        x.entry(0, 1, 1);
        file(x, 0, 2, A);
        same("rows tell the truth, nothing is made anew", x.diskAndIndex(), before);
    }

    /** PACK 0 comes to PACK 2, behind PACK 1; its rows are ahead of those of PACK 1 still. */
    private static void rowsStayInOrder() {
        Watched x = heads(A);
        file(x, 1, 0, B);
        x.entry(1, 1, 0);
        due("commit", x.commit(1, 1), 1);
        due("PACK 1", x.pack(1, 0), 40);
        due("clean", x.clean(), 1);
        due("rows", x.count(0), 8);
        int[] packs = {2, 2, 2, 2, 1, 1, 1, 1};
        int[] places = {0, 9, 19, 28, 0, 9, 19, 28};
        for (int i = 0; i < 8; i++) {
            due("PACK of row " + i, x.row(i, 2), packs[i]);
            due("place of row " + i, x.row(i, 3), places[i]);
        }
    }

    /** PACK 0 would be packed anew, PACK 6 would go. */
    private static Watched fullAndPartlyLive() {
        Watched x = partlyLive(5);
        x.remove(0, 1);
        file(x, 1, 0, 9);
        x.entry(1, 1, 0);
        for (int i = 0; i < 11; i++) {
            due("commit", x.commit(1, 0), i);
        }
        due("PACKS", x.count(1), 12);
        x.drop(5);
        return x;
    }

    private static void full() {
        Watched x = fullAndPartlyLive();
        x.anew();
        refused(x, "clean", x::clean, FULL);
        due("PACK 6 is there", x.pack(6, 0), 12);
        x.lie(0, 77);
        due("clean", x.clean(), FULL);
        due("THE INDEX is made ANEW all the same", x.row(0, 3), 0);
        file(x, 0, 0);
        due("remove", x.remove(0, 2), 0);
        due("without the LIVE FILE both go", x.clean(), 2);
        due("PACKS", x.count(1), 10);
    }

    private static void freeByThen() {
        Watched x = new Watched();
        file(x, 1, 0, 9);
        x.entry(1, 1, 0);
        due("commit", x.commit(1, 0), 0);
        due("commit", x.commit(1, 0), 1);
        file(x, 0, 9, uncut(384, 0));
        file(x, 0, 0, A);
        for (int i = 2; i < 11; i++) {
            due("commit", x.commit(1, 0), i);
        }
        due("PACKS", x.count(1), 12);
        due("the FILE's PACK", x.row(x.rowOf(PIECE, onePiece()), 2), 2);
        lighten(x, 0);
        due("no PACK is free", x.clean(), FULL);
        x.drop(1);
        due("PACK 1 goes, PACK 2 comes there", x.clean(), 2);
        due("the FILE's PACK", x.row(x.rowOf(PIECE, onePiece()), 2), 1);
        due("PACK 2", x.pack(2, 0), NONE);
    }

    private static void anewFirst() {
        Watched x = one();
        x.lie(2, 77);
        x.lie(0, 19);
        due("nothing goes by lies", x.clean(), 0);
        due("row 0", x.row(0, 3), 0);
        due("row 2", x.row(2, 3), 19);
        file(x, 1, 0, B);
        file(x, 0, 1, C);
        due("the last row came last", x.row(7, 2), 12);
        due("clean", x.clean(), 0);
        due("rows are in order of PACKS then", x.row(7, 2), 13);
    }

    private static void openPacks() {
        Watched x = weighted(0);
        file(x, 0, 0, A);
        lighten(x, 0);
        file(x, 1, 0, B);
        file(x, 1, 0, C);
        x.anew();
        String before = x.diskAndIndex();
        due("clean", x.clean(), 0);
        same("disk and index", x.diskAndIndex(), before);
        Watched y = one();
        file(y, 0, 1, B);
        file(y, 0, 1, A);
        file(y, 1, 1, C);
        file(y, 1, 1, 0, 0, 0, 64);
        due("an open PACK without a LIVE RECORD", y.clean(), 0);
        due("its bytes", y.pack(12, 0), 19);
        due("its rows", y.rowOf(LIST, listOfOne(B)), 5);
    }

    private static void howMany() {
        Watched x = fullDisk();
        file(x, 1, 0, 9);
        x.entry(1, 1, 0);
        due("none", x.clean(), 0);
        for (int left = 11; left >= 0; left--) {
            x.drop(0);
        }
        due("all", x.clean(), 12);
        due("PACKS", x.count(1), 0);
        due("rows", x.count(0), 2);
        due("none again", x.clean(), 0);
    }
}
