import java.util.Arrays;

/**
 * The boundary cases of what is REACHED, and what ends it as MISSING. A FINDING that fails makes THE INDEX anew, so a row
 * that lies, and lies still, was not looked for.
 */
public final class ReachEdgesTest extends Kit {
    private static final int NOWHERE = 77;
    private static final int[] A = {0, 0, 0, 16}, B = {0, 0, 0, 32}, C = {0, 0, 0, 48};

    public static void main(String[] args) {
        test("MISSING: a block that is not FOUND", ReachEdgesTest::notFound);
        test("such a SNAPSHOT (7)", ReachEdgesTest::snapshotBytes);
        test("a TREE: 4 each", ReachEdgesTest::treeBytes);
        test("a TREE: all of KIND 2 or 3", ReachEdgesTest::treeKinds);
        test("a TREE: as many as there are", ReachEdgesTest::treeOfThirteen);
        test("a LIST: 3 + 2 times how many", ReachEdgesTest::listBytes);
        test("a LIST of less than 3 bytes", ReachEdgesTest::shortLists);
        test("a LIST: n 400 at most", ReachEdgesTest::listOf401);
        test("a LIST whose PIECES have not n bytes together", ReachEdgesTest::notNBytes);
        test("not n bytes: behind its PIECES", ReachEdgesTest::notNBytesBehind);
        test("PIECES that have far more than n bytes", ReachEdgesTest::farMore);
        test("eight levels", ReachEdgesTest::eightLevels);
        test("a TREE that no level up to the eighth has", ReachEdgesTest::nineLevels);
        test("a TREE of the ninth level and of an upper one", ReachEdgesTest::ninthAndUpper);
        test("a TREE of the ninth level in a HEAD", ReachEdgesTest::nineLevelsOfAHead);
        test("behind all of the eighth", ReachEdgesTest::behindTheEighth);
        test("nothing behind the ninth level is looked for", ReachEdgesTest::nothingBehindTheNinth);
        test("a LIST that a TREE of the eighth level names", ReachEdgesTest::listBelowTheEighth);
        test("level by level", ReachEdgesTest::levelByLevel);
        test("each in order", ReachEdgesTest::inOrder);
        test("each TREE once", ReachEdgesTest::treeOnce);
        test("each LIST once", ReachEdgesTest::listOnce);
        test("a TREE and a LIST of one DIGEST", ReachEdgesTest::treeAndListOfOneDigest);
        test("LISTS as they were when they were met", ReachEdgesTest::listAsMet);
        test("TREES as they were when they were met", ReachEdgesTest::treeAsMet);
        test("of PIECES one FINDING each time that they are named", ReachEdgesTest::piecesEachTime);
        test("HEADS are looked at in order", ReachEdgesTest::headsInOrder);
        test("this TREE and then HEADS", ReachEdgesTest::treeAheadOfHeads);
        end();
    }

    // ---- helpers

    /**
     * Room for forged RECORDS at place 0 of PACK 0, then FILES under the names 1, 2 .., committed for owner 0. The empty
     * TREE of WRITER 1 is kept too, so that its commits need nothing new.
     */
    private static Watched files(int[]... contents) {
        Watched x = new Watched();
        file(x, 0, 9, uncut(64, 0));
        for (int i = 0; i < contents.length; i++) {
            file(x, 0, i, contents[i]);
            due("entry", x.entry(0, i + 1, i), i + 1);
        }
        due("commit of WRITER 1", x.commit(1, 1), 0);
        x.drop(0);
        due("commit", x.commit(0, 0), 0);
        due("whole", x.broken(), 0);
        return x;
    }

    private static int treeOfLists(int... lists) {
        int[] bytes = row();
        for (int i = 0; i < lists.length; i++) {
            bytes = joined(bytes, row(i + 1, 2), two(lists[i]));
        }
        return digest(TREE, bytes);
    }

    private static void forgeFirst(Watched x, int kind, int digest, int... bytes) {
        forge(x, 0, 0, kind, digest, forged(kind, digest, bytes));
        x.anew();
        due("the forged one is the first", x.rowOf(kind, digest), 0);
    }

    /** HEAD 0 is not whole, and the row of a block behind what is MISSING lies still. */
    private static void endsAheadOf(Watched x, String what, int kind, int digest) {
        int row = x.rowOf(kind, digest);
        int told = x.lie(row, NOWHERE);
        due(what + ": broken", x.broken(), 1);
        due(what + ": bytes that it reaches", x.head(0, 6), MISSING);
        due(what + ": owned", x.owned(0), MISSING);
        due(what + ": commit", x.commit(1, 0), MISSING);
        due(what + ": the row behind it", x.row(row, 3), NOWHERE);
        x.lie(row, told);
    }

    /** HEAD 0 is not whole, but a block ahead of what is MISSING is looked for. */
    private static void endsBehind(Watched x, String what, int kind, int digest) {
        int row = x.rowOf(kind, digest);
        int told = x.lie(row, NOWHERE);
        due(what + ": broken", x.broken(), 1);
        due(what + ": the row ahead of it", x.row(row, 3), told);
        x.lie(row, NOWHERE);
        due(what + ": owned", x.owned(0), MISSING);
        due(what + ": the row ahead of it", x.row(row, 3), told);
        x.lie(row, NOWHERE);
        due(what + ": commit", x.commit(1, 0), MISSING);
        due(what + ": the row ahead of it", x.row(row, 3), told);
    }

    // ---- what is MISSING

    private static void notFound() {
        int[] places = {8, 14, 24, 33};
        for (int place : places) {
            Watched x = one();
            x.remove(0, 7);
            due("spoil", x.spoil(0, place, 64) >= 0 ? 1 : 0, 1);
            due("broken by byte " + place, x.broken(), 1);
            due("bytes that it reaches", x.head(0, 6), MISSING);
            due("owned", x.owned(2), MISSING);
            due("commit", x.commit(0, 2), MISSING);
            due("commit for another owner", x.commit(0, 1), place == 33 ? MISSING : 1);
        }
        Watched x = one();
        x.spoil(0, 24, 64);
        x.remove(0, 7);
        x.entry(0, 8, 0);
        due("what another TREE of the LIST reaches", x.commit(0, 1), 1);
        x.spoil(0, 14, 64);
        due("without the LIST", x.commit(0, 1), MISSING);
    }

    private static void snapshotBytes() {
        int[][] others = {{-1, -1, -1}, {0, 0, 1, -1, -1, -1}, {0, 0, 1, 0, 0, -1, -1, -1},
            {0, 0, 1, 0, 0, 0, 0, 0, 0, 1, 0, -1, -1, -1}};
        for (int[] bytes : others) {
            Watched x = files(A);
            String what = bytes.length + " bytes";
            forgeFirst(x, SNAPSHOT, x.head(0, 0), bytes);
            endsAheadOf(x, what, TREE, treeOfLists(listOfOne(A)));
            due(what + ": its DIGEST needs no block", x.head(0, 0) >= 0 ? 1 : 0, 1);
            for (int ask = 1; ask < 7; ask++) {
                due(what + ": head(0, " + ask + ")", x.head(0, ask), MISSING);
            }
            due(what + ": sub", x.sub(1, 1, 0), MISSING);
            due(what + ": load", x.load(0, 1, -1), MISSING);
            due(what + ": another owner", x.owned(3), MISSING);
            due(what + ": commit for another owner", x.commit(1, 3), MISSING);
        }
        Watched x = files(A);
        int[] tree = two(treeOfLists(listOfOne(A)));
        forgeFirst(x, SNAPSHOT, x.head(0, 0), -1, -1, -1, 0, 0, tree[0], tree[1]);
        due("other 7 bytes are such a one", x.broken(), 0);
        due("its TREE", x.head(0, 5), 1);
    }

    private static void treeBytes() {
        int[] a = two(listOfOne(A));
        int[][] others = {{-1, -1, -1}, {1, 2, -1, -1, -1}, {1, 2, a[0], -1, -1, -1}, {1, 2, a[0], a[1], -1, -1, -1},
            {1, 2, a[0], a[1], -1, 2, -1, -1, 2}};
        for (int[] bytes : others) {
            Watched x = files(A, B);
            int tree = treeOfLists(listOfOne(A), listOfOne(B));
            forgeFirst(x, TREE, tree, bytes);
            endsAheadOf(x, bytes.length + " bytes", LIST, listOfOne(A));
            due("entries", x.head(0, 5), MISSING);
            due("load", x.load(0, 1, -1), MISSING);
            due("its DIGEST is told", x.head(0, 4), tree);
            due("sub needs the SNAPSHOT alone", x.sub(1, 1, 0), 1);
        }
    }

    private static void treeKinds() {
        int[] a = two(listOfOne(A));
        int[] b = two(listOfOne(B));
        int tree = treeOfLists(listOfOne(A), listOfOne(B));
        int[] kinds = {0, 1, 4, 5, 255};
        for (int kind : kinds) {
            Watched x = files(A, B);
            forgeFirst(x, TREE, tree, 1, 2, a[0], a[1], -1, kind, -1, -1);
            endsAheadOf(x, "the last of KIND " + kind, LIST, listOfOne(A));
            x = files(A, B);
            forgeFirst(x, TREE, tree, -1, kind, -1, -1, 1, 2, a[0], a[1]);
            endsAheadOf(x, "the first of KIND " + kind, LIST, listOfOne(A));
        }
        Watched x = files(A, B);
        int[] none = two(digest(TREE));
        forgeFirst(x, TREE, tree, -1, 2, a[0], a[1], -1, 3, none[0], none[1], -1, 2, b[0], b[1]);
        due("KINDS 2 and 3", x.broken(), 0);
        due("bytes that it reaches", x.head(0, 6), 12 + 5 + 5 + 4 + 4);
    }

    /** A TREE in work has 12 entries at most, but a block is such a TREE by its bytes alone. */
    private static void treeOfThirteen() {
        int[] a = two(listOfOne(A));
        int[] bytes = row();
        for (int i = 0; i < 13; i++) {
            bytes = joined(bytes, row(i < 3 ? -1 : 20 - i, 2), a);
        }
        Watched x = files(A, B);
        forgeFirst(x, TREE, treeOfLists(listOfOne(A), listOfOne(B)), bytes);
        due("whole", x.broken(), 0);
        due("entries", x.head(0, 5), 13);
        due("bytes that it reaches", x.head(0, 6), 52 + 5 + 4);
        due("load", x.load(0, 8, -1), 4);
    }

    private static void listBytes() {
        int[] a = two(digest(PIECE, A));
        int[][] others = {{-1, -1, 0, -1}, {0, -1, 0, -1, -1}, {0, 4, 2, -1, -1, -1}, {0, -1, 1, a[0], a[1], -1, -1},
            {0, -1, 3, a[0], a[1], -1, -1}, {0, -1, 2, a[0], a[1], -1, -1, 0}, {0, 4, 255, a[0], a[1], -1, -1, -1},
            {0, 4, 1, a[0], a[1], -1, -1, -1}};
        for (int[] bytes : others) {
            Watched x = files(A, B);
            forgeFirst(x, LIST, listOfOne(A), bytes);
            String what = bytes.length + " bytes, how many " + bytes[2];
            endsAheadOf(x, what, PIECE, digest(PIECE, A));
            endsAheadOf(x, what, LIST, listOfOne(B));
            due(what + ": load", x.load(0, 1, -1), MISSING);
            due(what + ": load of the other", x.load(0, 2, -1), 4);
        }
        Watched x = files(A, A);
        due("one LIST under two names", x.head(0, 6), 8 + 5 + 4);
    }

    private static void shortLists() {
        for (int length = 0; length < 3; length++) {
            int[] bytes = new int[length];
            int[] piece = null;
            for (int i = 0; i < 256 && piece == null; i++) {
                Arrays.fill(bytes, i);
                piece = pieceOfList(digest(LIST, bytes));
            }
            Watched x = files(piece, B);
            forgeFirst(x, LIST, listOfOne(piece), bytes);
            endsAheadOf(x, length + " bytes", LIST, listOfOne(B));
            due(length + " bytes: load", x.load(0, 1, -1), MISSING);
        }
    }

    private static void listOf401() {
        int[] a = two(digest(PIECE, A));
        int[][] heads = {{1, 145}, {2, 0}, {255, 255}};
        for (int[] n : heads) {
            Watched x = files(A, B);
            forgeFirst(x, LIST, listOfOne(A), n[0], n[1], 3, a[0], a[1], -1, -1, -1, 0);
            endsAheadOf(x, "n is " + (n[0] * 256 + n[1]), PIECE, digest(PIECE, A));
            due("load", x.load(0, 1, -1), MISSING);
        }
        Watched x = files(A, B);
        forgeFirst(x, LIST, listOfOne(A), 1, 144, 3, a[0], a[1], -1, -1, -1, 0);
        endsBehind(x, "n is 400: its PIECES are looked for", PIECE, digest(PIECE, A));
    }

    private static void notNBytes() {
        int[][] others = {{-1, -1, -1}, {1, 2, -1, -1, -1}};
        for (int[] bytes : others) {
            Watched x = files(A, B);
            forgeFirst(x, PIECE, digest(PIECE, A), bytes);
            endsAheadOf(x, bytes.length + " bytes instead of 4", LIST, listOfOne(B));
            due("load", x.load(0, 1, -1), MISSING);
            due("the tape is empty", x.count(4), 0);
            due("load of the other", x.load(0, 2, -1), 4);
            due("entries", x.head(0, 5), 2);
        }
        Watched x = files(A, B);
        forgeFirst(x, PIECE, digest(PIECE, A), 1, -1, -1, -1);
        due("four other bytes", x.broken(), 0);
        due("load", x.load(0, 1, -1), 4);
        due("byte 0", x.byteOf(0), 1);
        x = files(joined(A, B), C);
        forgeFirst(x, PIECE, digest(PIECE, A), 1, 2, -1, -1, -1);
        forge(x, 0, 10, PIECE, digest(PIECE, B), forged(PIECE, digest(PIECE, B), -1, -1, -1));
        x.anew();
        due("five and three are eight", x.broken(), 0);
        due("load", x.load(0, 1, -1), 8);
    }

    private static void notNBytesBehind() {
        Watched x = files(joined(A, C), B);
        forgeFirst(x, PIECE, digest(PIECE, A), 1, 2, -1, -1, -1);
        endsBehind(x, "the PIECE behind is looked for", PIECE, digest(PIECE, C));
        endsAheadOf(x, "the next LIST is not", LIST, listOfOne(B));
        due("load", x.load(0, 1, -1), MISSING);
        int row = x.rowOf(PIECE, digest(PIECE, C));
        int told = x.lie(row, NOWHERE);
        due("load", x.load(0, 1, -1), MISSING);
        due("its PIECES were all looked for", x.row(row, 3), told);
    }

    private static void farMore() {
        Watched x = new Watched();
        file(x, 0, 9, uncut(64, 0));
        int[] bytes = new int[400];
        for (int i = 3; i < 400; i += 4) {
            bytes[i] = 16;
        }
        file(x, 0, 0, bytes);
        x.entry(0, 1, 0);
        due("commit", x.commit(0, 0), 0);
        due("load", x.load(0, 1, -1), 400);
        int[] fifty = uncut(50, 4);
        fifty[47] = fifty[48] = fifty[49] = -1;
        forgeFirst(x, PIECE, digest(PIECE, A), fifty);
        due("100 PIECES of 50: load", x.load(0, 1, -1), MISSING);
        due("the tape is empty", x.count(4), 0);
        due("broken", x.broken(), 1);
        due("owned", x.owned(0), MISSING);
        due("bytes that it reaches", x.head(0, 6), MISSING);
    }

    // ---- levels

    /** HEADS 0 .. n - 1: HEAD k has k + 1 levels of TREES, the last of which has a LIST under the name 7. */
    private static Watched chain(int n) {
        Watched x = one();
        x.remove(0, 7);
        for (int k = 1; k < n; k++) {
            due("sub", x.sub(0, k, k - 1), 1);
            due("commit of " + (k + 1) + " levels", x.commit(0, 1), k);
            x.remove(0, k);
        }
        return x;
    }

    private static void eightLevels() {
        Watched x = chain(8);
        due("whole", x.broken(), 0);
        due("bytes that it reaches", x.head(7, 6), 13 + 7 * 4);
        due("owned", x.owned(1), 13 + 7 * 4);
    }

    private static void nineLevels() {
        Watched x = chain(8);
        due("sub", x.sub(0, 8, 7), 1);
        due("commit", x.commit(0, 1), MISSING);
        due("the TREE is kept", x.pack(12, 0), 9);
        refused(x, "commit again", () -> x.commit(0, 1), MISSING);
        due("sub", x.sub(0, 8, 6), 1);
        due("commit of eight levels again", x.commit(0, 1), 8);
    }

    private static void ninthAndUpper() {
        Watched x = chain(8);
        x.sub(0, 8, 7);
        x.sub(0, 9, 0);
        due("the last TREE is on the second level, too", x.commit(0, 1), 8);
        due("bytes that it reaches", x.head(8, 6), 13 + 7 * 4 + 8);
        Watched y = chain(8);
        y.sub(0, 8, 7);
        y.sub(0, 9, 1);
        due("the last but one is on the second level, so the last on the third", y.commit(0, 1), 8);
    }

    /** The last TREE of HEAD 8's eight levels is forged, so that it names another TREE. */
    private static void nineLevelsOfAHead() {
        Watched x = new Watched();
        file(x, 0, 9, uncut(64, 0));
        due("the empty TREE of WRITER 1", x.commit(1, 3), 0);
        file(x, 0, 0, A);
        x.entry(0, 7, 0);
        due("commit", x.commit(0, 2), 1);
        x.remove(0, 7);
        for (int k = 2; k <= 8; k++) {
            x.sub(0, k, k - 1);
            due("commit", x.commit(0, k == 8 ? 1 : 0), k);
            x.remove(0, k);
        }
        due("whole", x.broken(), 0);
        int[] none = two(digest(TREE));
        forgeFirst(x, TREE, oneTree(), -1, 3, none[0], none[1], -1, 3, none[0], none[1], -1, 3, none[0], none[1]);
        due("HEAD 8 alone has nine levels", x.broken(), 1 << 8);
        due("bytes that HEAD 8 reaches", x.head(8, 6), MISSING);
        due("bytes that HEAD 7 reaches", x.head(7, 6), 12 + 6 * 4);
        due("owned by 1", x.owned(1), MISSING);
        due("owned by 0", x.owned(0), 12 + 6 * 4);
        due("commit for 1", x.commit(1, 1), MISSING);
        due("commit for 0", x.commit(1, 0), 9);
    }

    /** Nine levels; the TREE of the seventh names that of the eighth, and behind it a LIST. */
    private static Watched nineWithListOnEighth() {
        Watched x = chain(2);
        file(x, 0, 1, C);
        x.entry(0, 99, 1);
        for (int k = 2; k < 9; k++) {
            due("sub", x.sub(0, k, k - 1), k == 2 ? 2 : 1);
            due("commit", x.commit(0, 1), k == 8 ? MISSING : k);
            if (k < 8) {
                x.remove(0, k);
                x.remove(0, 99);
            }
        }
        return x;
    }

    private static void behindTheEighth() {
        Watched x = nineWithListOnEighth();
        int[][] blocks = {{LIST, listOfOne(C)}, {PIECE, digest(PIECE, C)}, {TREE, x.head(1, 4)}};
        for (int[] block : blocks) {
            int row = x.rowOf(block[0], block[1]);
            int told = x.lie(row, NOWHERE);
            due("commit", x.commit(0, 1), MISSING);
            due("the eighth level's KIND " + block[0] + " was looked for", x.row(row, 3), told);
        }
    }

    private static void nothingBehindTheNinth() {
        Watched x = nineWithListOnEighth();
        int[][] blocks = {{SNAPSHOT, x.head(0, 0)}, {TREE, x.head(0, 4)}, {LIST, oneList()}, {PIECE, onePiece()}};
        for (int[] block : blocks) {
            int row = x.rowOf(block[0], block[1]);
            x.lie(row, NOWHERE);
            due("commit", x.commit(0, 2), MISSING);
            due("KIND " + block[0] + " behind it", x.row(row, 3), NOWHERE);
            x.anew();
        }
    }

    private static void listBelowTheEighth() {
        Watched x = chain(8);
        x.spoil(0, 8, 1);
        due("its PIECE is needed", x.broken(), 255);
        x.spoil(0, 8, 1);
        x.spoil(0, 14, 1);
        due("the LIST is needed", x.broken(), 255);
        due("commit of none", x.commit(0, 1), MISSING);
        due("commit of none for another", x.commit(0, 0), 8);
    }

    // ---- the order

    /** A LIST on the second level that has not n bytes, beside a TREE whose LIST is on the third. */
    private static void levelByLevel() {
        Watched x = files(B);
        x.remove(0, 1);
        file(x, 0, 5, A);
        x.sub(0, 1, 0);
        x.entry(0, 2, 5);
        due("commit", x.commit(0, 0), 1);
        x.drop(0);
        forgeFirst(x, PIECE, digest(PIECE, A), 1, 2, -1, -1, -1);
        endsAheadOf(x, "the third level is behind the second", LIST, listOfOne(B));
        endsBehind(x, "the TREE is ahead of the LIST", TREE, treeOfLists(listOfOne(B)));
    }

    private static void inOrder() {
        Watched x = files(B, A, C);
        forgeFirst(x, PIECE, digest(PIECE, A), 1, 2, -1, -1, -1);
        endsBehind(x, "the first LIST", LIST, listOfOne(B));
        endsBehind(x, "its PIECE", PIECE, digest(PIECE, B));
        endsBehind(x, "the second LIST itself", LIST, listOfOne(A));
        endsAheadOf(x, "the third LIST", LIST, listOfOne(C));
        endsAheadOf(x, "its PIECE", PIECE, digest(PIECE, C));
    }

    private static void treeOnce() {
        Watched x = one();
        x.remove(0, 7);
        x.sub(0, 1, 0);
        x.sub(0, 2, 0);
        due("commit", x.commit(0, 1), 1);
        due("bytes that it reaches", x.head(1, 6), 8 + 13);
        x.sub(0, 1, 1);
        due("a TREE of the second and third level", x.commit(0, 1), 2);
        due("bytes that it reaches", x.head(2, 6), 8 + 8 + 13);
    }

    /** The LIST is met again behind a FINDING by which its row comes to tell another RECORD, which is not whole. */
    private static void listOnce() {
        Watched x = files(A, B, A);
        forge(x, 0, 0, LIST, listOfOne(A), forged(LIST, listOfOne(A), 0, -1, 1, -1, -1));
        x.lie(x.rowOf(LIST, listOfOne(B)), NOWHERE);
        due("met once", x.broken(), 0);
        due("the row tells the other one now", x.rowOf(LIST, listOfOne(A)), 0);
        due("broken", x.broken(), 1);
    }

    private static void treeAndListOfOneDigest() {
        int[] piece = pieceOfList(oneTree());
        Watched x = one();
        file(x, 0, 1, piece);
        x.remove(0, 7);
        x.entry(0, 1, 1);
        x.sub(0, 2, 0);
        due("commit", x.commit(0, 0), 1);
        int bytes = 8 + 5 + piece.length;
        due("bytes that it reaches", x.head(1, 6), bytes + 13);
        x.spoil(0, 24, 1);
        due("its TREE is needed", x.head(1, 6), MISSING);
        x.spoil(0, 24, 1);
        x.spoil(1, 5 + piece.length + 5, 1);
        due("its LIST is needed", x.head(1, 6), MISSING);
        due("bytes of the other", x.head(0, 6), 13);
    }

    private static void listAsMet() {
        Watched x = files(joined(A, B, C));
        int list = listOf(12, digest(PIECE, A), digest(PIECE, B), digest(PIECE, C));
        forge(x, 0, 0, LIST, list, forged(LIST, list, 0, -1, 1, -1, -1));
        x.lie(x.rowOf(PIECE, digest(PIECE, B)), NOWHERE);
        due("its third PIECE is what it named when it was met", x.head(0, 6), 4 + 9 + 12);
        due("the row tells the other one now", x.rowOf(LIST, list), 0);
        due("bytes that it reaches now", x.head(0, 6), MISSING);
    }

    private static void treeAsMet() {
        Watched x = files(A);
        int tree = treeOfLists(listOfOne(A));
        file(x, 0, 5, B);
        x.remove(0, 1);
        x.sub(0, 1, 0);
        x.entry(0, 2, 5);
        due("commit", x.commit(0, 0), 1);
        x.drop(0);
        forge(x, 0, 0, TREE, tree, forged(TREE, tree, 5, 2, 9, 9, -1, 2, -1, -1));
        x.lie(x.rowOf(LIST, listOfOne(B)), NOWHERE);
        due("what it named when it was met", x.head(0, 6), 8 + 4 + 5 + 4 + 5 + 4);
        due("the row tells the other one now", x.rowOf(TREE, tree), 0);
        due("bytes that it reaches now", x.head(0, 6), MISSING);
    }

    /** A PIECE is named twice, and between them one whose row lies: the second time it is another one, of five bytes. */
    private static void piecesEachTime() {
        int[] five = forged(PIECE, digest(PIECE, A), 1, 1, -1, -1, -1);
        Watched x = new Watched();
        file(x, 0, 9, uncut(64, 0));
        x.compare(false);
        file(x, 0, 0, joined(A, B, five));
        x.entry(0, 1, 0);
        due("four, four and four are not 13", x.commit(0, 0), MISSING);
        forge(x, 12, 0, PIECE, digest(PIECE, A), five);
        x.lie(x.rowOf(PIECE, digest(PIECE, B)), NOWHERE);
        due("four, four and five", x.commit(0, 0), 0);
        due("five, four and five are not 13", x.broken(), 1);
    }

    /** HEAD 0 is of two that are not whole; what HEAD 1 needs is not looked for. */
    private static void headsInOrder() {
        Watched x = files(A);
        x.remove(0, 1);
        file(x, 0, 5, B);
        x.entry(0, 1, 5);
        due("commit", x.commit(0, 0), 1);
        due("commit for another", x.commit(1, 3), 2);
        forgeFirst(x, PIECE, digest(PIECE, A), 1, 2, -1, -1, -1);
        int[][] blocks = {{SNAPSHOT, x.head(1, 0)}, {TREE, x.head(1, 4)}, {LIST, listOfOne(B)}, {SNAPSHOT, x.head(2, 0)}};
        for (int[] block : blocks) {
            int row = x.rowOf(block[0], block[1]);
            int told = x.lie(row, NOWHERE);
            due("owned", x.owned(0), MISSING);
            due("commit", x.commit(1, 0), MISSING);
            due("KIND " + block[0] + " behind it", x.row(row, 3), NOWHERE);
            due("broken looks at each HEAD", x.broken(), 1);
            due("KIND " + block[0] + " was looked for", x.row(row, 3), told);
        }
        int row = x.rowOf(SNAPSHOT, x.head(2, 0));
        int told = x.lie(row, NOWHERE);
        due("of another owner its SNAPSHOTS alone", x.owned(3), 0);
        due("the last was looked for", x.row(row, 3), told);
    }

    private static void treeAheadOfHeads() {
        Watched x = files(A);
        due("commit for another", x.commit(1, 3), 1);
        forgeFirst(x, PIECE, digest(PIECE, A), 1, 2, -1, -1, -1);
        int row = x.rowOf(SNAPSHOT, x.head(1, 0));
        int told = x.lie(row, NOWHERE);
        due("the TREE itself", x.commit(0, 2), MISSING);
        due("no SNAPSHOT was looked for", x.row(row, 3), NOWHERE);
        due("a whole TREE", x.commit(1, 0), MISSING);
        due("the first HEAD ends it", x.row(row, 3), NOWHERE);
        due("a whole TREE, another owner", x.commit(1, 2), 2);
        due("now it was looked for", x.row(row, 3), told);
    }
}
