/** Promise by promise: ordinary calls, the edges that the document names, and wrong inputs. */
public final class PromisesTest extends Kit {
    public static void main(String[] args) {
        test("promise 1", PromisesTest::newObject);
        test("promise 2", PromisesTest::feed);
        test("promise 3", PromisesTest::cut);
        test("promise 4", PromisesTest::byteOf);
        test("promise 5", PromisesTest::compare);
        test("promise 6", PromisesTest::quota);
        test("promise 7", PromisesTest::filePieces);
        test("promise 7", PromisesTest::fileAnswers);
        test("promise 7", PromisesTest::fileFull);
        test("promise 7", PromisesTest::fileOfDigestZero);
        test("promise 8", PromisesTest::entry);
        test("promise 9", PromisesTest::sub);
        test("promise 10", PromisesTest::remove);
        test("promise 11", PromisesTest::commitBlocks);
        test("promise 11", PromisesTest::commitAnswers);
        test("promise 11", PromisesTest::commitFull);
        test("promise 11", PromisesTest::twentyHeads);
        test("promise 11", PromisesTest::levels);
        test("promise 11", PromisesTest::endsAtFirst);
        test("promise 12", PromisesTest::crash);
        test("promise 13", PromisesTest::drop);
        test("promise 14", PromisesTest::load);
        test("promise 14", PromisesTest::loadOtherLength);
        test("promise 15", PromisesTest::head);
        test("promise 16", PromisesTest::owned);
        test("promise 17", PromisesTest::cleanGoes);
        test("promise 17", PromisesTest::cleanHalf);
        test("promise 17", PromisesTest::cleanKeepsWork);
        test("promise 17", PromisesTest::cleanKeepsLevels);
        test("promise 17", PromisesTest::cleanFull);
        test("promise 18", PromisesTest::spoil);
        test("promise 19", PromisesTest::lie);
        test("promise 20", PromisesTest::anew);
        test("promise 21", PromisesTest::rotten);
        test("promise 22", PromisesTest::broken);
        test("promise 23", PromisesTest::pack);
        test("promise 24", PromisesTest::packByte);
        test("promise 25", PromisesTest::row);
        test("promise 26", PromisesTest::count);
        end();
    }

    // ---- 1 .. 6

    private static void newObject() {
        Watched x = new Watched();
        for (int what = 0; what < 7; what++) {
            due("count(" + what + ")", x.count(what), 0);
        }
        for (int p = 0; p < 14; p++) {
            due("pack(" + p + ", 0)", x.pack(p, 0), p < 12 ? NONE : 0);
        }
        for (int owner = 0; owner < 4; owner++) {
            due("quota", x.quota(owner, 5000), 5000);
            due("owned", x.owned(owner), 0);
        }
        due("compare", x.compare(true), 1);
        due("broken", x.broken(), 0);
        due("rotten", x.rotten(), 0);
        due("clean", x.clean(), 0);
        due("anew", x.anew(), 0);
    }

    private static void feed() {
        Watched x = new Watched();
        due("feed", x.feed(0x01020304, 0x80FF007F, -1, 0, 0x00000005), 20);
        int[] want = {1, 2, 3, 4, 128, 255, 0, 127, 255, 255, 255, 255, 0, 0, 0, 0, 0, 0, 0, 5};
        for (int i = 0; i < 20; i++) {
            due("byteOf(" + i + ")", x.byteOf(i), want[i]);
        }
        for (int n = 40; n <= 400; n += 20) {
            due("feed", x.feed(n, n, n, n, n), n);
        }
        due("feed above 400", x.feed(9, 9, 9, 9, 9), FULL);
        due("tape stays", x.count(4), 400);
        due("last byte stays", x.byteOf(399), 400 & 255);
        due("cut", x.cut(1), 399);
        due("feed above 400 again", x.feed(9, 9, 9, 9, 9), FULL);
        due("cut", x.cut(19), 380);
        due("feed to 400", x.feed(9, 9, 9, 9, 9), 400);
    }

    private static void cut() {
        Watched x = new Watched();
        due("cut(0)", x.cut(0), 0);
        due("cut(1) of none", x.cut(1), BAD);
        x.feed(1, 2, 3, 4, 5);
        due("cut(-1)", x.cut(-1), BAD);
        due("cut(21)", x.cut(21), BAD);
        due("cut(least)", x.cut(Integer.MIN_VALUE), BAD);
        due("cut(3)", x.cut(3), 17);
        due("byte 16", x.byteOf(16), 0);
        due("byte 17", x.byteOf(17), BAD);
        due("cut(17)", x.cut(17), 0);
    }

    private static void byteOf() {
        Watched x = new Watched();
        due("byteOf(0) of none", x.byteOf(0), BAD);
        x.feed(0xFE000000, 0, 0, 0, 0xFD);
        due("byteOf(-1)", x.byteOf(-1), BAD);
        due("byteOf(0)", x.byteOf(0), 254);
        due("byteOf(19)", x.byteOf(19), 253);
        due("byteOf(20)", x.byteOf(20), BAD);
        due("byteOf(greatest)", x.byteOf(Integer.MAX_VALUE), BAD);
    }

    private static void compare() {
        due("twins have one digest", digest(PIECE, TWIN), digest(PIECE, OTHER_TWIN));
        Watched x = new Watched();
        file(x, 0, 0, TWIN);
        tape(x, OTHER_TWIN);
        due("with compare", x.file(0, 1), CLASH);
        due("compare(false)", x.compare(false), 1);
        due("compare(false) again", x.compare(false), 0);
        tape(x, OTHER_TWIN);
        due("without compare", x.file(0, 1), 1);
        due("nothing new is kept", x.count(0), 2);
        due("compare(true)", x.compare(true), 0);
        tape(x, OTHER_TWIN);
        due("with compare again", x.file(0, 1), CLASH);
        x.entry(0, 5, 1);
        due("commit", x.commit(0, 0), 0);
        due("load", x.load(0, 5, -1), 4);
        due("it is the first twin", x.byteOf(3), 0);
    }

    private static void quota() {
        Watched x = new Watched();
        due("owner -1", x.quota(-1, 5), BAD);
        due("owner 4", x.quota(4, 5), BAD);
        due("n -1", x.quota(0, -1), BAD);
        due("n 10001", x.quota(0, 10001), BAD);
        due("n 10000", x.quota(0, 10000), 5000);
        due("n 0", x.quota(0, 0), 10000);
        due("what it was", x.quota(0, 13), 0);
        due("another owner's", x.quota(3, 1), 5000);
        file(x, 0, 0, 0, 0, 0, 16);
        x.entry(0, 7, 0);
        due("13 bytes of 13", x.commit(0, 0), 0);
        x.quota(0, 12);
        due("13 bytes of 12", x.commit(0, 0), OVER);
    }

    // ---- 7 .. 12

    private static int piecesOfFile(int... bytes) {
        Watched x = new Watched();
        tape(x, bytes);
        int pieces = x.file(0, 0);
        due("the tape is empty then", x.count(4), 0);
        return pieces;
    }

    private static void filePieces() {
        due("none", piecesOfFile(), 0);
        due("one byte", piecesOfFile(16), 1);
        due("three with a sum of 16", piecesOfFile(16, 0, 0), 1);
        due("four with a sum of 16", piecesOfFile(16, 0, 0, 0), 1);
        due("a byte behind them", piecesOfFile(16, 0, 0, 0, 1), 2);
        due("the sum of the last four, not of all", piecesOfFile(15, 0, 0, 0, 1), 1);
        due("the last four of five", piecesOfFile(1, 15, 1, 0, 0, 5), 2);
        due("four of a new piece", piecesOfFile(0, 0, 0, 0, 0, 0, 0), 2);
        due("a sum of 17", piecesOfFile(17, 0, 0, 0, 0), 1);
        due("a sum above 255", piecesOfFile(255, 255, 255, 3, 1), 2);
        due("64 bytes", piecesOfFile(uncut(64, 0)), 1);
        due("65 bytes", piecesOfFile(uncut(65, 0)), 2);
        due("129 bytes", piecesOfFile(uncut(129, 0)), 3);
        Watched x = new Watched();
        for (int i = 0; i < 20; i++) {
            x.feed(0, 0, 0, 0, 0);
        }
        due("the most", x.file(1, 9), 100);
        due("a piece and the list are kept", x.count(0), 2);
        due("bytes of the list", x.pack(13, 0), 9 + 5 + 203);
        due("how many in the list", x.packByte(13, 9 + 5 + 2), 100);
        due("n", x.packByte(13, 9 + 5) * 256 + x.packByte(13, 9 + 6), 400);
    }

    private static void fileAnswers() {
        Watched x = new Watched();
        tape(x, 0, 0, 0, 16, 1);
        due("writer -1", x.file(-1, 0), BAD);
        due("writer 2", x.file(2, 0), BAD);
        due("number -1", x.file(0, -1), BAD);
        due("number 10", x.file(0, 10), BAD);
        due("the tape stays", x.count(4), 5);
        due("file", x.file(0, 9), 2);
        due("rows", x.count(0), 3);
        file(x, 0, 9, TWIN);
        tape(x, 0, 0, 0, 48, OTHER_TWIN[0], OTHER_TWIN[1], OTHER_TWIN[2], OTHER_TWIN[3]);
        due("clash", x.file(0, 9), CLASH);
        due("the tape is empty", x.count(4), 0);
        due("what was kept before stays", x.row(x.count(0) - 1, 1), digest(PIECE, 0, 0, 0, 48));
        x.entry(0, 1, 9);
        due("commit", x.commit(0, 0), 0);
        due("what was there", x.load(0, 1, -1), 4);
        due("its bytes", x.byteOf(1), 45);
        file(x, 0, 3, 0, 0, 0, 80);
        file(x, 1, 3, 0, 0, 0, 80);
        due("the other writer's pack is flushed", x.pack(12, 0), 0);
        due("it is pack 1", x.pack(1, 1), 2);
        due("nothing is kept twice", x.pack(13, 0), 0);
        due("rows follow", x.row(x.count(0) - 1, 2), 1);
    }

    private static void fileFull() {
        Watched x = fullDisk();
        file(x, 0, 0, 0, 0, 0, 16);
        tape(x, 0, 0, 0, 16);
        due("flush of the other one's", x.file(1, 0), FULL);
        due("the tape is empty", x.count(4), 0);
        due("no file", x.entry(1, 0, 0), BAD);
        due("open pack stays", x.pack(12, 0), 19);
        file(x, 0, 1, uncut(384, 0));
        due("open pack", x.pack(12, 0), 19 + 6 * 69 + 20);
        tape(x, uncut(140, 11));
        due("above 600", x.file(0, 0), FULL);
        due("what was kept before stays", x.pack(12, 0), 19 + 6 * 69 + 20 + 69 + 69);
        tape(x, 3, 1, 2);
        due("600 and no more: a list of 10", x.file(0, 0), FULL);
        due("its piece is kept", x.pack(12, 0), 599);
        x.entry(0, 0, 0);
        due("what was there", x.count(5), 1);
        due("drop", x.drop(3), 11);
        due("clean", x.clean(), 1);
        tape(x, 3, 1, 2);
        due("with room", x.file(0, 0), 1);
        due("flushed to the least free", x.pack(3, 0), 599);
        due("the list behind it", x.pack(12, 0), 10);
    }

    /** A PIECE, cut nowhere but at its end, whose LIST has the digest 0. */
    private static int[] pieceOfListZero() {
        for (int i = 0; i < 600; i++) {
            int length = 4 + i % 60;
            int[] bytes = uncut(length, i / 60);
            for (int n = 0; n < 1 << 16; n++) {
                bytes[length - 2] = n >> 8;
                bytes[length - 1] = n & 255;
                int piece = digest(PIECE, bytes);
                int cut = length < 5 ? 1 : bytes[length - 5] + bytes[length - 4] + bytes[length - 3] + bytes[length - 2];
                if (cut % 16 != 0 && digest(LIST, 0, length, 1, piece >> 8, piece & 255) == 0) {
                    return bytes;
                }
            }
        }
        return new int[0];
    }

    /** The digest 0 is one like others. */
    private static void fileOfDigestZero() {
        int[] bytes = pieceOfListZero();
        Watched x = new Watched();
        tape(x, bytes);
        due("pieces", x.file(0, 0), 1);
        due("its digest", x.row(1, 1), 0);
        due("entry", x.entry(0, 1, 0), 1);
        due("commit", x.commit(0, 0), 0);
        due("load", x.load(0, 1, -1), bytes.length);
        x.crash(0);
        x.sub(0, 2, 0);
        due("commit", x.commit(0, 0), 1);
        due("whole", x.broken(), 0);

        int n = 0;
        while (n < 1 << 24 && digest(PIECE, n >> 16, n >> 8 & 255, n & 255) != 0) {
            n++;
        }
        due("a byte 0 leaves the digest 0", digest(PIECE, n >> 16, n >> 8 & 255, n & 255, 0), 0);
        x = new Watched();
        tape(x, n >> 16, n >> 8 & 255, n & 255, 0);
        due("a piece of digest 0", x.file(1, 0), 1);
        tape(x, n >> 16, n >> 8 & 255, n & 255);
        due("one that is its beginning", x.file(1, 1), CLASH);
    }

    private static void entry() {
        Watched x = new Watched();
        file(x, 1, 4, 0, 0, 0, 16);
        file(x, 1, 5, 0, 0, 0, 32);
        due("no such file", x.entry(1, 0, 3), BAD);
        due("the other one's file", x.entry(0, 0, 4), BAD);
        due("writer -1", x.entry(-1, 0, 4), BAD);
        due("writer 2", x.entry(2, 0, 4), BAD);
        due("name -1", x.entry(1, -1, 4), BAD);
        due("name 256", x.entry(1, 256, 4), BAD);
        due("number -1", x.entry(1, 0, -1), BAD);
        due("number 10", x.entry(1, 0, 10), BAD);
        due("name 255", x.entry(1, 255, 4), 1);
        due("name 0", x.entry(1, 0, 4), 2);
        due("name 255 again", x.entry(1, 255, 5), 2);
        for (int i = 3; i <= 12; i++) {
            due("entries", x.entry(1, 200 - i, 4), i);
        }
        due("a thirteenth", x.entry(1, 1, 4), FULL);
        due("no file ahead of full", x.entry(1, 1, 3), BAD);
        due("one that is there", x.entry(1, 0, 5), 12);
        due("commit", x.commit(1, 0), 0);
        int first = 2 * 19 + 5;
        due("names rise: 0", x.packByte(0, first), 0);
        due("a list", x.packByte(0, first + 1), 2);
        due("names rise: 188", x.packByte(0, first + 4), 188);
        due("names rise: 197", x.packByte(0, first + 40), 197);
        due("names rise: 255", x.packByte(0, first + 44), 255);
        due("the newer file", x.load(0, 255, -1), 4);
        due("its byte", x.byteOf(3), 32);
    }

    private static void sub() {
        Watched x = one();
        due("writer -1", x.sub(-1, 1, 0), BAD);
        due("writer 2", x.sub(2, 1, 0), BAD);
        due("name -1", x.sub(1, -1, 0), BAD);
        due("name 256", x.sub(1, 256, 0), BAD);
        due("head -1", x.sub(1, 1, -1), BAD);
        due("head 1", x.sub(1, 1, 1), BAD);
        due("sub", x.sub(1, 3, 0), 1);
        due("again", x.sub(1, 3, 0), 1);
        due("commit", x.commit(1, 0), 1);
        due("its entry", x.packByte(1, 5 + 1), 3);
        due("its tree", x.packByte(1, 5 + 2) * 256 + x.packByte(1, 5 + 3), oneTree());
        due("instead of a file", x.sub(0, 7, 1), 1);
        for (int i = 2; i <= 12; i++) {
            due("sub", x.sub(0, 100 + i, 0), i);
        }
        x.spoil(0, 33, 1);
        due("full is ahead of missing", x.sub(0, 1, 0), FULL);
        due("nothing was looked for", x.count(0), 6);
        due("missing, one that is there", x.sub(0, 7, 0), MISSING);
        due("missing", x.sub(1, 9, 0), MISSING);
        due("it was looked for", x.count(0), 5);
        due("entries stay", x.count(6), 1);
        x.spoil(0, 33, 1);
        x.spoil(0, 19, 255);
        x.spoil(1, 0, 255);
        due("the tree itself is not needed", x.sub(1, 9, 0), MISSING);
        x.spoil(0, 19, 255);
        x.spoil(0, 24, 1);
        due("a tree that is not right is not needed", x.sub(1, 9, 0), 2);
    }

    private static void remove() {
        Watched x = one();
        due("name 6", x.remove(0, 6), BAD);
        due("name 8", x.remove(0, 8), BAD);
        due("name -1", x.remove(0, -1), BAD);
        due("name 256", x.remove(0, 256), BAD);
        due("writer -1", x.remove(-1, 7), BAD);
        due("writer 2", x.remove(2, 7), BAD);
        due("the other writer", x.remove(1, 7), BAD);
        x.entry(0, 3, 0);
        x.entry(0, 9, 0);
        due("remove", x.remove(0, 7), 2);
        due("again", x.remove(0, 7), BAD);
        due("commit", x.commit(0, 0), 1);
        due("entries", x.head(1, 5), 2);
        due("3 is there", x.load(1, 3, -1), 4);
        due("7 is not", x.load(1, 7, -1), NONE);
        due("9 is there", x.load(1, 9, -1), 4);
        due("remove", x.remove(0, 3), 1);
        due("remove", x.remove(0, 9), 0);
    }

    private static void commitBlocks() {
        Watched x = one();
        int[] want = {1, 0, 4, onePiece() >> 8, onePiece() & 255, 0, 0, 0, 16,
            2, 0, 5, oneList() >> 8, oneList() & 255, 0, 4, 1, onePiece() >> 8, onePiece() & 255,
            3, 0, 4, oneTree() >> 8, oneTree() & 255, 7, 2, oneList() >> 8, oneList() & 255,
            4, 0, 7, oneSnapshot() >> 8, oneSnapshot() & 255, 2, 0, 1, 0, 0, oneTree() >> 8, oneTree() & 255};
        due("bytes", x.pack(0, 0), want.length);
        for (int i = 0; i < want.length; i++) {
            due("packByte(0, " + i + ")", x.packByte(0, i), want[i]);
        }
        due("open pack", x.pack(12, 0), 0);
        due("the tree in work stays", x.count(5), 1);
        file(x, 1, 0, 0, 0, 0, 32);
        due("the tree that is there", x.commit(0, 1), 1);
        due("its snapshot alone", x.pack(1, 0), 12);
        due("and the other one's pack", x.pack(2, 0), 19);
        due("the one before", x.head(1, 3), oneSnapshot());
        due("its number", x.head(1, 2), 2);
        x.drop(0);
        x.drop(0);
        due("without one before", x.commit(0, 1), 0);
        due("the one before", x.head(0, 3), 0);
        due("numbers go on", x.head(0, 2), 3);
    }

    private static void commitAnswers() {
        Watched x = one();
        due("writer -1", x.commit(-1, 0), BAD);
        due("writer 2", x.commit(2, 0), BAD);
        due("owner -1", x.commit(0, -1), BAD);
        due("owner 4", x.commit(0, 4), BAD);
        x.quota(2, 13);
        due("the same blocks count once", x.commit(0, 2), 1);
        file(x, 1, 0, 0, 0, 0, 16);
        x.entry(1, 8, 0);
        due("another tree of 4 bytes", x.commit(1, 2), OVER);
        due("the tree was kept", x.pack(13, 0), 9);
        due("no snapshot", x.count(3), 2);
        x.quota(2, 17);
        due("17 bytes", x.commit(1, 2), 2);
        x.spoil(0, 5, 1);
        due("a piece is missing", x.commit(0, 0), MISSING);
        x.remove(0, 7);
        due("not his", x.commit(0, 0), 3);
        due("what his snapshots reach", x.commit(0, 2), MISSING);
        x.spoil(0, 5, 1);
        due("right again", x.commit(0, 2), 4);
        x.spoil(0, 39, 1);
        due("another owner's snapshot", x.commit(0, 0), MISSING);
        commitClash();
    }

    /** A TREE whose digest is that of another one. */
    private static void commitClash() {
        Watched x = new Watched();
        int list = digest(LIST, 0, 0, 0);
        int[] first = new int[65536];
        int a = 0;
        int b = 0;
        for (int names = 1; names < 65536 && b == 0; names++) {
            int tree = pairTree(names, list);
            if (names >> 8 < (names & 255)) {
                a = first[tree];
                b = a > 0 ? names : 0;
                first[tree] = names;
            }
        }
        due("there are such trees", b > 0 ? 1 : 0, 1);
        file(x, 0, 0);
        x.entry(0, a >> 8, 0);
        x.entry(0, a & 255, 0);
        due("the first", x.commit(0, 0), 0);
        file(x, 1, 0);
        x.entry(1, b >> 8, 0);
        x.entry(1, b & 255, 0);
        due("the other", x.commit(1, 0), CLASH);
        x.compare(false);
        due("without compare", x.commit(1, 0), 1);
        due("it is the first one", x.load(1, a >> 8, -1), 0);
    }

    private static int pairTree(int names, int list) {
        return digest(TREE, names >> 8, 2, list >> 8, list & 255, names & 255, 2, list >> 8, list & 255);
    }

    private static void commitFull() {
        Watched x = fullDisk();
        file(x, 0, 0, 0, 0, 0, 16);
        x.entry(0, 7, 0);
        due("no room", x.commit(0, 0), FULL);
        due("heads", x.count(2), 12);
        due("made in all", x.count(3), 12);
        due("all is kept", x.pack(12, 0), 40);
        x.drop(5);
        due("clean", x.clean(), 1);
        file(x, 1, 0, 0, 0, 0, 32);
        due("room for one of two", x.commit(0, 0), FULL);
        due("what was flushed stays", x.pack(5, 0), 40);
        due("and the other one", x.pack(13, 0), 19);
        x.crash(1);
        due("its snapshot is kept", x.commit(0, 0), 11);
        due("number", x.head(11, 2), 13);
    }

    private static void twentyHeads() {
        Watched x = withTwentyHeads();
        file(x, 0, 9, 0, 0, 0, 16);
        x.entry(0, 1, 9);
        int open = x.pack(12, 0);
        due("a twenty-first", x.commit(0, 0), FULL);
        due("it was looked at first", x.pack(12, 0), open);
        due("whole", x.broken(), 0);
        due("numbers", x.head(19, 2), 20);
    }

    private static void levels() {
        Watched x = one();
        int bytes = 13;
        x.entry(0, 7, 0);
        for (int level = 2; level <= 8; level++) {
            x.remove(0, level == 2 ? 7 : level - 1);
            x.sub(0, level, level - 2);
            due("commit", x.commit(0, 1), level - 1);
            bytes += 4;
            due("bytes", x.head(level - 1, 6), bytes);
        }
        due("load", x.load(1, 2, 7), 4);
        x.sub(0, 8, 7);
        due("nine levels", x.commit(0, 1), MISSING);
        x.sub(0, 9, 0);
        due("the ninth is met on the second", x.commit(0, 1), 8);
        due("bytes", x.head(8, 6), bytes + 8);
    }

    private static void crash() {
        Watched x = one();
        due("writer -1", x.crash(-1), BAD);
        due("writer 2", x.crash(2), BAD);
        file(x, 1, 0, 0, 0, 0, 32);
        file(x, 0, 1, 0, 0, 0, 48);
        x.entry(1, 1, 0);
        due("rows", x.count(0), 8);
        due("crash", x.crash(1), 19);
        due("rows", x.count(0), 6);
        due("row 4", x.row(4, 2), 12);
        due("pack", x.pack(13, 0), 0);
        due("entries", x.count(6), 0);
        due("files", x.entry(1, 1, 0), BAD);
        due("the other one's entries", x.count(5), 1);
        due("the other one's files", x.entry(0, 1, 1), 2);
        due("of nothing", x.crash(1), 0);
        due("heads stay", x.count(2), 1);
        due("the other one", x.crash(0), 19);
        due("load", x.load(0, 7, -1), 4);
    }

    // ---- 13 .. 16

    private static void drop() {
        Watched x = one();
        due("commit", x.commit(0, 1), 1);
        due("commit", x.commit(0, 0), 2);
        due("-1", x.drop(-1), BAD);
        due("3", x.drop(3), BAD);
        due("drop", x.drop(1), 2);
        due("the first stays", x.head(0, 1), 2);
        due("the last moves up", x.head(1, 1), 0);
        due("2", x.drop(2), BAD);
        due("drop", x.drop(0), 1);
        due("drop", x.drop(0), 0);
        due("none", x.drop(0), BAD);
        due("made in all", x.count(3), 3);
    }

    private static void load() {
        Watched x = one();
        x.sub(0, 9, 0);
        due("commit", x.commit(0, 0), 1);
        tape(x, 5);
        due("head -1", x.load(-1, 7, -1), BAD);
        due("head 2", x.load(2, 7, -1), BAD);
        due("no such name", x.load(1, 8, -1), NONE);
        due("name -1", x.load(1, -1, -1), NONE);
        due("name 256 + 7", x.load(1, 263, -1), NONE);
        due("a tree", x.load(1, 9, -1), NONE);
        due("a list with b", x.load(1, 7, 7), NONE);
        due("no such name with b", x.load(1, 8, 7), NONE);
        due("no such name in the tree", x.load(1, 9, 8), NONE);
        due("b -2", x.load(1, 9, -2), NONE);
        due("the tape stays", x.count(4), 1);
        due("load", x.load(1, 7, -1), 4);
        due("its byte", x.byteOf(3), 16);
        x.feed(0, 0, 0, 0, 0);
        due("in the tree", x.load(1, 9, 7), 4);
        due("tape", x.count(4), 4);
        x.sub(1, 1, 1);
        due("commit", x.commit(1, 0), 2);
        due("a tree under b", x.load(2, 1, 9), NONE);
        due("a list under b", x.load(2, 1, 7), 4);
        loadMissing(x);
    }

    private static void loadMissing(Watched x) {
        int[] places = {8, 14, 27, 39};
        for (int place : places) {
            x.spoil(0, place, 64);
            due("missing, byte " + place, x.load(0, 7, -1), MISSING);
            due("the tape is empty", x.count(4), 0);
            x.spoil(0, place, 64);
            due("right again", x.load(0, 7, -1), 4);
        }
        x.spoil(0, 27, 64);
        due("the tree below is missing", x.load(1, 9, 7), MISSING);
        due("the tree below is not needed", x.load(1, 7, -1), 4);
        due("no such name stays none", x.load(1, 8, 7), NONE);
        x.spoil(0, 39, 64);
        due("a missing snapshot is ahead of none", x.load(0, 8, -1), MISSING);
    }

    /** A PIECE of five bytes, and one of four with the same digest. */
    private static int[][] otherLength() {
        int[][] four = new int[65536][];
        for (int i = 0; i < 65536; i++) {
            int[] piece = {7, i >> 8, i & 255, 16 - (7 + (i >> 8) + i) % 16 & 15};
            four[digest(PIECE, piece)] = piece;
        }
        for (int i = 0; i < 256; i++) {
            int[] five = {1, 0, 0, 0, i};
            int[] other = four[digest(PIECE, five)];
            if (other != null && i % 16 != 0) {
                return new int[][] {five, other};
            }
        }
        due("there are such pieces", 0, 1);
        return new int[][] {{1}, {2}};
    }

    /** A LIST whose PIECE is found as another one with the same digest, of four bytes instead of five. */
    private static void loadOtherLength() {
        int[][] pair = otherLength();
        Watched x = new Watched();
        file(x, 0, 0, pair[0]);
        x.entry(0, 1, 0);
        due("commit", x.commit(0, 0), 0);
        due("load", x.load(0, 1, -1), 5);
        x.cut(5);
        tape(x, pair[1]);
        due("another length is another one", x.file(1, 0), CLASH);
        x.spoil(0, 5, 64);
        file(x, 1, 0, pair[1]);
        due("four bytes instead of five", x.load(0, 1, -1), MISSING);
        due("the tape is empty", x.count(4), 0);
        due("reached by no commit", x.commit(0, 1), MISSING);
        due("broken", x.broken(), 1);
        due("owned", x.owned(0), MISSING);
        x.spoil(0, 5, 64);
        due("the row is true still", x.load(0, 1, -1), MISSING);
        x.anew();
        due("the first in the packs", x.load(0, 1, -1), 5);
    }

    /** Behind a LIST that has not its n bytes, which makes no index anew, nothing is looked for: a row that lies stays. */
    private static void endsAtFirst() {
        int[][] pair = otherLength();
        Watched x = new Watched();
        file(x, 0, 1, 0, 0, 0, 16);
        file(x, 0, 0, pair[0]);
        x.entry(0, 1, 0);
        x.entry(0, 2, 1);
        due("commit", x.commit(0, 0), 0);
        x.spoil(0, 19 + 5, 64);
        file(x, 1, 0, pair[1]);
        due("the piece of the second file", x.row(0, 1), onePiece());
        x.lie(0, 77);
        due("broken", x.broken(), 1);
        due("bytes", x.head(0, 6), MISSING);
        due("owned", x.owned(0), MISSING);
        due("commit", x.commit(0, 0), MISSING);
        due("load", x.load(0, 1, -1), MISSING);
        due("it lies still", x.row(0, 3), 77);
        due("load of the second file", x.load(0, 2, -1), 4);
        due("now it was looked for", x.row(0, 3), 0);
    }

    private static void head() {
        Watched x = one();
        int[] want = {oneSnapshot(), 2, 1, 0, oneTree(), 1, 13};
        due("head -1", x.head(-1, 0), BAD);
        due("head 1", x.head(1, 0), BAD);
        due("what -1", x.head(0, -1), BAD);
        due("what 7", x.head(0, 7), BAD);
        for (int what = 0; what < 7; what++) {
            due("head(0, " + what + ")", x.head(0, what), want[what]);
        }
        x.spoil(0, 8, 1);
        due("entries without a piece", x.head(0, 5), 1);
        due("bytes without a piece", x.head(0, 6), MISSING);
        x.spoil(0, 24, 1);
        due("its tree's digest without the tree", x.head(0, 4), oneTree());
        due("entries without the tree", x.head(0, 5), MISSING);
        x.spoil(0, 28, 255);
        due("the digest without the snapshot", x.head(0, 0), oneSnapshot());
        for (int what = 1; what < 7; what++) {
            due("head(0, " + what + ") without the snapshot", x.head(0, what), MISSING);
        }
    }

    private static void owned() {
        Watched x = one();
        due("owner -1", x.owned(-1), BAD);
        due("owner 4", x.owned(4), BAD);
        due("owner 2", x.owned(2), 13);
        due("owner 1", x.owned(1), 0);
        file(x, 0, 1, 0, 0, 0, 16, 0, 0, 0, 16);
        x.entry(0, 8, 1);
        due("commit", x.commit(0, 2), 1);
        due("each block once", x.owned(2), 13 + 7 + 8);
        due("commit", x.commit(0, 3), 2);
        due("another owner's", x.owned(3), 4 + 5 + 7 + 8);
        x.spoil(0, 24, 1);
        due("his tree", x.owned(2), MISSING);
        due("not his", x.owned(3), 4 + 5 + 7 + 8);
        x.spoil(0, 24, 1);
        x.spoil(0, 33, 1);
        due("any snapshot", x.owned(1), MISSING);
        due("any snapshot", x.owned(3), MISSING);
    }

    // ---- 17

    private static void cleanGoes() {
        Watched x = one();
        due("all is live", x.clean(), 0);
        file(x, 1, 0, 0, 0, 0, 32);
        x.entry(1, 5, 0);
        due("commit", x.commit(1, 1), 1);
        x.crash(0);
        due("a head holds all", x.clean(), 0);
        x.drop(0);
        x.lie(0, 599);
        due("the first pack goes", x.clean(), 1);
        due("it is not there", x.pack(0, 0), NONE);
        due("its rows go", x.count(0), 4);
        due("the other stays", x.pack(1, 0), 40);
        due("rows are of the other", x.row(0, 2), 1);
        x.spoil(1, 39, 1);
        due("a head that is missing: its file stays live", x.clean(), 1);
        due("packed anew: piece and list", x.pack(0, 0), 19);
        due("rows follow", x.row(1, 2) * 1000 + x.row(1, 3), 9);
        due("the old one is gone", x.pack(1, 0), NONE);
        x.crash(1);
        due("nothing is live", x.clean(), 1);
        due("no packs", x.count(1), 0);
        due("no rows", x.count(0), 0);
        due("the head is there still", x.broken(), 1);
    }

    /** A PIECE of n bytes and its LIST, held by the FILE, beside a TREE and a SNAPSHOT of 21 that nobody reaches. */
    private static Watched partlyLive(int n) {
        Watched x = new Watched();
        file(x, 0, 0, uncut(n, 0));
        x.entry(0, 1, 0);
        due("commit", x.commit(0, 0), 0);
        due("bytes", x.pack(0, 0), 5 + n + 10 + 21);
        x.remove(0, 1);
        x.drop(0);
        return x;
    }

    private static void cleanHalf() {
        Watched x = partlyLive(6);
        due("half of its bytes are live", x.clean(), 0);
        due("it is as it was", x.pack(0, 0), 42);
        due("rows", x.count(0), 4);
        x = partlyLive(5);
        due("less than half", x.clean(), 1);
        due("the least free", x.pack(1, 0), 20);
        due("the old one", x.pack(0, 0), NONE);
        due("rows of what is dead go", x.count(0), 2);
        due("rows follow", x.row(0, 2), 1);
        due("rows follow", x.row(1, 3), 10);
        due("again", x.clean(), 0);
        x.entry(0, 1, 0);
        due("commit", x.commit(0, 0), 0);
        due("load", x.load(0, 1, -1), 5);
    }

    private static void cleanKeepsWork() {
        Watched x = one();
        x.sub(1, 4, 0);
        due("commit", x.commit(1, 0), 1);
        x.crash(0);
        x.drop(0);
        x.drop(0);
        due("snapshot 1 is dead, the rest is not; pack 1 is dead", x.clean(), 1);
        due("pack 0", x.pack(0, 0), 40);
        due("rows", x.count(0), 4);
        due("commit", x.commit(1, 0), 0);
        due("load", x.load(0, 4, 7), 4);
        x.crash(1);
        x.drop(0);
        due("open packs are not cleaned", x.clean(), 2);
        file(x, 0, 0, 0, 0, 0, 16);
        due("clean", x.clean(), 0);
        due("open pack", x.pack(12, 0), 19);
    }

    /** Seven levels of TREES below the TREE in work are live, though no HEAD is left. */
    private static void cleanKeepsLevels() {
        Watched x = one();
        for (int level = 2; level <= 7; level++) {
            x.remove(0, level == 2 ? 7 : level - 1);
            due("sub", x.sub(0, level, level - 2), 1);
            due("commit", x.commit(0, 1), level - 1);
        }
        due("sub", x.sub(1, 99, 6), 1);
        x.crash(0);
        for (int left = 6; left >= 0; left--) {
            due("drop", x.drop(0), left);
        }
        due("a tree is less than half beside its snapshot", x.clean(), 6);
        due("commit", x.commit(1, 0), 0);
        due("whole", x.broken(), 0);
        due("bytes", x.head(0, 6), 13 + 7 * 4);
    }

    private static void cleanFull() {
        Watched x = partlyLive(5);
        for (int i = 0; i < 11; i++) {
            due("commit", x.commit(1, 0), i);
        }
        due("packs", x.count(1), 12);
        x.drop(5);
        due("no pack is free", x.clean(), FULL);
        due("nothing more is done", x.count(1), 12);
        x.crash(0);
        due("two go", x.clean(), 2);
        due("packs", x.count(1), 10);
    }

    // ---- 18 .. 26

    private static void spoil() {
        Watched x = one();
        due("pack -1", x.spoil(-1, 0, 1), BAD);
        due("pack 1", x.spoil(1, 0, 1), BAD);
        due("pack 14", x.spoil(14, 0, 1), BAD);
        due("place -1", x.spoil(0, -1, 1), BAD);
        due("place 40", x.spoil(0, 40, 1), BAD);
        due("mask 0", x.spoil(0, 0, 0), BAD);
        due("mask 256", x.spoil(0, 0, 256), BAD);
        due("mask -1", x.spoil(0, 0, -1), BAD);
        due("empty open pack", x.spoil(12, 0, 1), BAD);
        due("place 8", x.spoil(0, 8, 255), 239);
        due("place 8", x.packByte(0, 8), 239);
        due("place 39", x.spoil(0, 39, 128), oneTree() & 255 ^ 128);
        due("back", x.spoil(0, 8, 255), 16);
        file(x, 1, 0, 0, 0, 0, 32);
        due("an open pack", x.spoil(13, 8, 1), 33);
        due("a record of it", x.pack(13, 2), 1);
        file(x, 1, 1, 0, 0, 0, 32);
        due("what is spoiled is kept again", x.pack(13, 1), 3);
    }

    private static void lie() {
        Watched x = one();
        due("row -1", x.lie(-1, 0), BAD);
        due("row 4", x.lie(4, 0), BAD);
        due("place -1", x.lie(0, -1), BAD);
        due("place 600", x.lie(0, 600), BAD);
        due("place 599", x.lie(1, 599), 9);
        due("it tells that", x.row(1, 3), 599);
        due("what it told", x.lie(1, 19), 599);
        due("found all the same", x.load(0, 7, -1), 4);
        due("the index is made anew", x.row(1, 3), 9);
        x.lie(0, 1);
        x.lie(3, 0);
        due("only what is looked for", x.head(0, 2), 1);
        due("all rows are made anew", x.row(0, 3), 0);
        x.lie(0, 1);
        due("true rows are not made anew", x.head(0, 5), 1);
        due("it lies still", x.row(0, 3), 1);
    }

    private static void anew() {
        Watched x = new Watched();
        file(x, 1, 0, 0, 0, 0, 16);
        file(x, 0, 0, 0, 0, 0, 32);
        due("anew for each that is new: 12", x.row(0, 2), 12);
        due("13", x.row(2, 2), 13);
        due("the last that came", x.row(3, 2), 12);
        due("anew", x.anew(), 4);
        due("by pack: 12", x.row(1, 2), 12);
        due("by pack: 13", x.row(2, 2), 13);
        x.spoil(12, 8, 1);
        due("right ones alone", x.anew(), 3);
        due("the list is first", x.row(0, 0), 2);
        file(x, 1, 1, 0, 0, 0, 32);
        due("the list is in pack 0, which was flushed", x.pack(0, 0), 19);
        due("the piece is in pack 13", x.row(x.anew() - 1, 2), 13);
        x.spoil(0, 8, 1);
        due("each once: the first", x.anew(), 4);
        due("the first", x.row(0, 2), 0);
        x.spoil(0, 0, 255);
        due("what is behind it is nothing", x.anew(), 3);
    }

    private static void rotten() {
        Watched x = one();
        due("none", x.rotten(), 0);
        x.spoil(0, 3, 1);
        due("a digest", x.rotten(), 1);
        x.spoil(0, 15, 1);
        due("and a byte", x.rotten(), 2);
        x.spoil(0, 19, 1);
        due("a kind that is one", x.rotten(), 3);
        x.spoil(0, 19, 1 ^ 255);
        due("nothing behind a kind that is none", x.rotten(), 2);
        file(x, 1, 0, 0, 0, 0, 32);
        x.spoil(13, 8, 1);
        due("open packs do not count", x.rotten(), 2);
    }

    private static void broken() {
        Watched x = one();
        file(x, 1, 0, 0, 0, 0, 32);
        x.entry(1, 1, 0);
        due("commit", x.commit(1, 0), 1);
        x.sub(1, 2, 0);
        due("commit", x.commit(1, 0), 2);
        due("whole", x.broken(), 0);
        x.spoil(0, 8, 1);
        due("a piece of the first and third", x.broken(), 5);
        x.spoil(0, 8, 1);
        x.spoil(1, 39, 1);
        due("the second snapshot", x.broken(), 2);
        x.spoil(1, 8, 1);
        due("and the third's piece", x.broken(), 6);
        x.drop(0);
        due("bits are places", x.broken(), 3);
    }

    private static void pack() {
        Watched x = one();
        due("pack -1", x.pack(-1, 0), BAD);
        due("pack 14", x.pack(14, 0), BAD);
        due("what -1", x.pack(0, -1), BAD);
        due("what 3", x.pack(0, 3), BAD);
        due("bytes", x.pack(0, 0), 40);
        due("records", x.pack(0, 1), 4);
        due("right ones", x.pack(0, 2), 4);
        due("not there", x.pack(1, 0), NONE);
        due("not there, wrong what", x.pack(1, 3), BAD);
        due("an open one", x.pack(13, 0), 0);
        due("its records", x.pack(13, 1), 0);
        x.spoil(0, 18, 1);
        due("records", x.pack(0, 1), 4);
        due("right ones", x.pack(0, 2), 3);
        x.spoil(0, 30, 15);
        due("its bytes are not there", x.pack(0, 1), 3);
        x.spoil(0, 30, 15 ^ 1);
        due("fewer bytes", x.pack(0, 1), 4);
        due("right ones", x.pack(0, 2), 2);
        due("bytes stay", x.pack(0, 0), 40);
        file(x, 0, 0, uncut(320, 0));
        due("open pack", x.pack(12, 1), 6);
        x.spoil(12, 1, 1);
        due("a record of 256 + 64, and what it ends in", x.pack(12, 1), 1);
        x.spoil(12, 2, 64 ^ 15);
        due("256 + 15: four records on the old borders", x.pack(12, 1), 3);
        due("right ones", x.pack(12, 2), 2);
    }

    private static void packByte() {
        Watched x = one();
        due("pack -1", x.packByte(-1, 0), BAD);
        due("pack 1", x.packByte(1, 0), BAD);
        due("pack 14", x.packByte(14, 0), BAD);
        due("-1", x.packByte(0, -1), BAD);
        due("40", x.packByte(0, 40), BAD);
        due("0", x.packByte(0, 0), 1);
        due("39", x.packByte(0, 39), oneTree() & 255);
        due("empty open pack", x.packByte(12, 0), BAD);
        file(x, 0, 1, 200, 200, 200, 200);
        due("open pack", x.packByte(12, 8), 200);
    }

    private static void row() {
        Watched x = one();
        int[][] want = {{1, onePiece(), 0, 0}, {2, oneList(), 0, 9}, {3, oneTree(), 0, 19}, {4, oneSnapshot(), 0, 28}};
        for (int i = 0; i < 4; i++) {
            for (int what = 0; what < 4; what++) {
                due("row(" + i + ", " + what + ")", x.row(i, what), want[i][what]);
            }
        }
        due("row -1", x.row(-1, 0), BAD);
        due("row 4", x.row(4, 0), BAD);
        due("what -1", x.row(0, -1), BAD);
        due("what 4", x.row(0, 4), BAD);
        file(x, 1, 1, 200, 200, 200, 200);
        due("an open pack's row", x.row(4, 2), 13);
        due("and place", x.row(5, 3), 9);
    }

    private static void count() {
        Watched x = one();
        x.feed(0, 0, 0, 0, 0);
        x.sub(1, 1, 0);
        x.sub(1, 2, 0);
        int[] want = {4, 1, 1, 1, 20, 1, 2};
        for (int what = 0; what < 7; what++) {
            due("count(" + what + ")", x.count(what), want[what]);
        }
        due("count(-1)", x.count(-1), BAD);
        due("count(7)", x.count(7), BAD);
        x.drop(0);
        due("heads", x.count(2), 0);
        due("made in all", x.count(3), 1);
    }
}
