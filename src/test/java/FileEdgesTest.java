/** The boundary cases of "2 FILES" but for what is REACHED: a test for each sentence that names one. */
public final class FileEdgesTest extends Kit {
    public static void main(String[] args) {
        test("behind a byte, if the PIECE has 64", FileEdgesTest::sixtyFour);
        test("or has 4 at least", FileEdgesTest::fourAtLeast);
        test("the sum of its last four bytes", FileEdgesTest::lastFour);
        test("a multiple of 16", FileEdgesTest::multiples);
        test("a last PIECE of less than 4", FileEdgesTest::lastOfLess);
        test("a tape of 0 bytes", FileEdgesTest::tapeOfNone);
        test("a tape of 400 bytes", FileEdgesTest::tapeOfMost);
        test("each PIECE is KEPT, in order; then the LIST", FileEdgesTest::listBytes);
        test("under a number 0 .. 9", FileEdgesTest::tenFiles);
        test("a TREE in work: up to 12 entries", FileEdgesTest::twelveEntries);
        test("by rising names (0 .. 255)", FileEdgesTest::risingNames);
        test("a LIST, or another TREE", FileEdgesTest::listAndTree);
        test("a SNAPSHOT's block", FileEdgesTest::snapshotBlock);
        test("its number: 1, 2 .. as they were made in all", FileEdgesTest::numbers);
        test("the DIGEST of the one before in HEADS; 0 without", FileEdgesTest::oneBefore);
        test("the TREE is KEPT (FULL)", FileEdgesTest::treeFull);
        test("the TREE is KEPT (CLASH)", FileEdgesTest::treeClash);
        test("no more than that (else OVER)", FileEdgesTest::quotaEdge);
        test("a QUOTA of 0", FileEdgesTest::quotaNone);
        test("each KIND and DIGEST once", FileEdgesTest::quotaOnce);
        test("each KIND: a PIECE and a LIST of one DIGEST", FileEdgesTest::quotaOfTwoKinds);
        test("as it was FOUND first", FileEdgesTest::quotaFoundFirst);
        test("this TREE and then his SNAPSHOTS in HEADS", FileEdgesTest::quotaOfHis);
        test("a SNAPSHOT itself not", FileEdgesTest::quotaWithoutSnapshots);
        test("MISSING is ahead of OVER", FileEdgesTest::missingAheadOfOver);
        test("OVER: no SNAPSHOT is KEPT, nothing is FLUSHED", FileEdgesTest::overLeaves);
        test("then the SNAPSHOT is KEPT (FULL)", FileEdgesTest::snapshotFull);
        test("then the SNAPSHOT is KEPT (CLASH)", FileEdgesTest::snapshotClash);
        test("the open PACKS of both WRITERS are FLUSHED: 0, then 1", FileEdgesTest::flushOrder);
        test("empty ones not", FileEdgesTest::emptyNotFlushed);
        test("empty ones not, and so no FULL", FileEdgesTest::nothingToFlush);
        test("FULL: no room: what was flushed stays", FileEdgesTest::flushFull);
        test("the TREE in work stays", FileEdgesTest::treeStays);
        end();
    }

    // ---- cutting

    /** The PIECES of a FILE, which are all different, have these lengths. */
    private static void cutInto(String what, int[] bytes, int... lengths) {
        Watched x = new Watched();
        tape(x, bytes);
        due(what + ": PIECES", x.file(0, 0), lengths.length);
        int[] pack = x.bytesOf(12);
        int place = 0;
        for (int length : lengths) {
            due(what + ": KIND", place < pack.length ? pack[place] : -1, PIECE);
            due(what + ": length", place < pack.length ? pack[place + 2] : -1, length);
            place += 5 + length;
        }
        due(what + ": then the LIST", place < pack.length ? pack[place] : -1, LIST);
    }

    private static void sixtyFour() {
        cutInto("63", uncut(63, 0), 63);
        cutInto("64", uncut(64, 0), 64);
        cutInto("65", uncut(65, 0), 64, 1);
        cutInto("128", uncut(128, 0), 64, 64);
        cutInto("129", uncut(129, 0), 64, 64, 1);
        int[] bytes = uncut(66, 0);
        bytes[63] = 15;
        cutInto("a sum of 16 in byte 63, too", bytes, 64, 2);
        bytes = uncut(66, 0);
        bytes[62] = 15;
        cutInto("a sum of 16 in byte 62", bytes, 63, 3);
    }

    private static void fourAtLeast() {
        cutInto("three with a sum of 16", row(16, 0, 0, 1, 1), 5);
        cutInto("four with a sum of 16", row(16, 0, 0, 0, 1), 4, 1);
        cutInto("four alone", row(16, 0, 0, 0), 4);
        cutInto("five", row(1, 16, 0, 0, 0, 1), 5, 1);
        cutInto("one with 16", row(16), 1);
    }

    private static void lastFour() {
        cutInto("not of all", row(1, 1, 1, 1, 12), 5);
        cutInto("of the last four of six", row(1, 1, 1, 5, 5, 5, 1), 6, 1);
        cutInto("not with those of the PIECE before", row(0, 0, 0, 16, 5, 6, 5, 1, 1), 4, 5);
        cutInto("the PIECE behind has four of its own", row(0, 0, 0, 16, 0, 0, 1, 15, 2), 4, 4, 1);
    }

    private static void multiples() {
        int[] cut = {0, 4, 8, 12, 252};
        for (int b : cut) {
            cutInto("four times " + b, row(b, b, b, b, 1), 4, 1);
        }
        int[] whole = {1, 2, 3, 5, 127, 255, 254};
        for (int b : whole) {
            cutInto("four times " + b, row(b, b, b, b), 4);
            cutInto("five times " + b, row(b, b, b, b, b), 5);
        }
        cutInto("a sum of 15", row(15, 0, 0, 0, 15, 0), 6);
        cutInto("a sum of 17", row(17, 0, 0, 0, 17, 0), 6);
        cutInto("a sum of 256", row(255, 1, 0, 0, 7), 4, 1);
    }

    private static void lastOfLess() {
        cutInto("1", row(0, 0, 0, 16, 0), 4, 1);
        cutInto("2", row(0, 0, 0, 16, 0, 0), 4, 2);
        cutInto("3", row(0, 0, 0, 16, 0, 0, 0), 4, 3);
        cutInto("4", row(0, 0, 0, 16, 0, 0, 0, 0), 4, 4);
        cutInto("3 alone", row(0, 0, 0), 3);
    }

    private static void tapeOfNone() {
        Watched x = new Watched();
        due("PIECES", x.file(0, 0), 0);
        int[] want = {2, 0, 3, digest(LIST, 0, 0, 0) >> 8, digest(LIST, 0, 0, 0) & 255, 0, 0, 0};
        due("open PACK", x.pack(12, 0), want.length);
        for (int i = 0; i < want.length; i++) {
            due("byte " + i, x.packByte(12, i), want[i]);
        }
        due("entry", x.entry(0, 1, 0), 1);
        due("commit", x.commit(0, 0), 0);
        due("bytes that it reaches", x.head(0, 6), 7);
        tape(x, 1, 2, 3);
        due("load", x.load(0, 1, -1), 0);
        due("the tape", x.count(4), 0);
    }

    private static void tapeOfMost() {
        Watched x = new Watched();
        tape(x, uncut(400, 0));
        due("PIECES", x.file(0, 0), 7);
        due("open PACK", x.pack(12, 0), 6 * 69 + 21 + 22);
        due("n, the higher byte", x.packByte(12, 440), 1);
        due("n, the lower byte", x.packByte(12, 441), 144);
        due("how many", x.packByte(12, 442), 7);
        due("entry", x.entry(0, 1, 0), 1);
        due("commit", x.commit(0, 0), 0);
        due("bytes that it reaches", x.head(0, 6), 400 + 17 + 4);
        tape(x, new int[400]);
        due("load", x.load(0, 1, -1), 400);
        due("the first byte", x.byteOf(0), uncut(400, 0)[0]);
        due("the first of the last PIECE", x.byteOf(384), uncut(400, 0)[384]);
        due("the last byte", x.byteOf(399), uncut(400, 0)[399]);
        due("none behind it", x.byteOf(400), BAD);
    }

    private static void listBytes() {
        Watched x = new Watched();
        file(x, 0, 0, 0, 0, 0, 32, 0, 0, 0, 16, 0, 0, 0, 32, 9);
        int p32 = digest(PIECE, 0, 0, 0, 32);
        int p16 = onePiece();
        int p9 = digest(PIECE, 9);
        int[] want = joined(record(PIECE, p32, 0, 0, 0, 32), record(PIECE, p16, 0, 0, 0, 16), record(PIECE, p9, 9),
                record(LIST, listOf(13, p32, p16, p32, p9),
                        joined(row(0, 13, 4), two(p32), two(p16), two(p32), two(p9))));
        due("open PACK", x.pack(12, 0), want.length);
        for (int i = 0; i < want.length; i++) {
            due("byte " + i, x.packByte(12, i), want[i]);
        }
    }

    private static void tenFiles() {
        Watched x = new Watched();
        for (int i = 0; i < 10; i++) {
            file(x, 0, i, i + 1);
        }
        for (int i = 0; i < 10; i++) {
            due("entry " + i, x.entry(0, i, i), i + 1);
            due("not WRITER 1's", x.entry(1, i, i), BAD);
        }
        due("commit", x.commit(0, 0), 0);
        for (int i = 0; i < 10; i++) {
            due("load " + i, x.load(0, i, -1), 1);
            due("its byte", x.byteOf(0), i + 1);
        }
    }

    // ---- TREES and SNAPSHOTS

    private static void twelveEntries() {
        Watched x = new Watched();
        file(x, 0, 0, 0, 0, 0, 16);
        for (int i = 0; i < 12; i++) {
            due("entry", x.entry(0, 20 * i, 0), i + 1);
        }
        refused(x, "a thirteenth", () -> x.entry(0, 255, 0), FULL);
        due("instead of what is there", x.entry(0, 220, 0), 12);
        due("commit", x.commit(0, 0), 0);
        due("entries", x.head(0, 5), 12);
        due("its bytes", x.packByte(0, 19 + 1) * 256 + x.packByte(0, 19 + 2), 48);
        due("bytes that it reaches", x.head(0, 6), 48 + 5 + 4);
        due("remove", x.remove(0, 0), 11);
        due("a twelfth again", x.entry(0, 255, 0), 12);
    }

    private static void risingNames() {
        Watched x = new Watched();
        file(x, 0, 0, 0, 0, 0, 16);
        int[] names = {128, 255, 0, 127, 254, 1};
        for (int i = 0; i < names.length; i++) {
            due("entry " + names[i], x.entry(0, names[i], 0), i + 1);
        }
        due("commit", x.commit(0, 0), 0);
        int[] rising = {0, 1, 127, 128, 254, 255};
        for (int i = 0; i < rising.length; i++) {
            due("name " + i, x.packByte(0, 19 + 5 + 4 * i), rising[i]);
            due("load " + rising[i], x.load(0, rising[i], -1), 4);
        }
        due("load 256", x.load(0, 256, -1), NONE);
        due("load -1", x.load(0, -1, -1), NONE);
    }

    private static void listAndTree() {
        Watched x = one();
        due("sub", x.sub(0, 8, 0), 2);
        due("commit", x.commit(0, 0), 1);
        int[] want = joined(row(7, 2), two(oneList()), row(8, 3), two(oneTree()));
        for (int i = 0; i < want.length; i++) {
            due("byte " + i, x.packByte(1, 5 + i), want[i]);
        }
    }

    private static void snapshotBlock() {
        Watched x = one();
        due("commit", x.commit(0, 3), 1);
        int[] bytes = joined(row(3, 0, 2), two(oneSnapshot()), two(oneTree()));
        int[] want = record(SNAPSHOT, digest(SNAPSHOT, bytes), bytes);
        due("PACK 1", x.pack(1, 0), 12);
        for (int i = 0; i < want.length; i++) {
            due("byte " + i, x.packByte(1, i), want[i]);
        }
        due("HEAD 1", x.head(1, 0), digest(SNAPSHOT, bytes));
    }

    private static void numbers() {
        Watched x = new Watched();
        due("made in all", x.count(3), 0);
        due("commit", x.commit(0, 0), 0);
        due("the first number", x.head(0, 2), 1);
        due("commit", x.commit(1, 2), 1);
        due("one row of numbers for all", x.head(1, 2), 2);
        x.drop(1);
        x.drop(0);
        due("commit", x.commit(0, 0), 0);
        due("dropped ones were made too", x.head(0, 2), 3);
        x.quota(0, 0);
        file(x, 0, 0);
        x.entry(0, 1, 0);
        due("commit", x.commit(0, 0), OVER);
        x.quota(0, 5000);
        due("commit", x.commit(0, 0), 1);
        due("a refused one was not made", x.head(1, 2), 4);
        due("made in all", x.count(3), 4);
    }

    private static void oneBefore() {
        Watched x = new Watched();
        due("commit", x.commit(0, 0), 0);
        due("without", x.head(0, 3), 0);
        due("commit", x.commit(0, 0), 1);
        due("commit", x.commit(0, 1), 2);
        due("of another owner too", x.head(2, 3), x.head(1, 0));
        int first = x.head(0, 0);
        x.drop(1);
        x.drop(1);
        due("commit", x.commit(0, 0), 1);
        due("the last that is in HEADS", x.head(1, 3), first);
        x.drop(0);
        due("it stays as it was", x.head(0, 3), first);
        x.drop(0);
        due("commit", x.commit(0, 0), 0);
        due("without again", x.head(0, 3), 0);
    }

    // ---- COMMIT

    /** A full DISK and an open PACK of WRITER 0 with 558 bytes and those of a FILE of n bytes: 573 + n. */
    private static Watched nearlyFull(int n) {
        Watched x = fullDisk();
        file(x, 0, 0, uncut(384, 0));
        file(x, 0, 1, uncut(64, 9));
        file(x, 0, 2, uncut(30, 5));
        file(x, 0, 3, uncut(n, 3));
        due("open PACK", x.pack(12, 0), 573 + n);
        due("entry", x.entry(0, 1, 3), 1);
        return x;
    }

    private static void treeFull() {
        Watched x = nearlyFull(19);
        x.quota(0, 0);
        refused(x, "a TREE of 9 above 592 (ahead of OVER)", () -> x.commit(0, 0), FULL);
        Watched y = nearlyFull(18);
        y.quota(0, 0);
        due("a TREE of 9 above 591", y.commit(0, 0), OVER);
        due("it is kept", y.pack(12, 0), 600);
    }

    private static void treeClash() {
        Watched x = new Watched();
        file(x, 0, 9, uncut(64, 0));
        file(x, 0, 0, 0, 0, 0, 16);
        x.entry(0, 7, 0);
        forge(x, 12, 0, TREE, oneTree(), forged(TREE, oneTree(), 1, 2, 3, 4, 5, -1, -1, -1));
        x.anew();
        x.quota(0, 0);
        refused(x, "commit (ahead of MISSING and OVER)", () -> x.commit(0, 0), CLASH);
        x.compare(false);
        due("without COMPARE it is that one", x.commit(0, 0), MISSING);
    }

    private static void quotaEdge() {
        for (int n = 12; n <= 14; n++) {
            Watched x = new Watched();
            file(x, 0, 0, 0, 0, 0, 16);
            x.entry(0, 7, 0);
            x.quota(2, n);
            due("13 bytes with a QUOTA of " + n, x.commit(0, 2), n < 13 ? OVER : 0);
        }
    }

    private static void quotaNone() {
        Watched x = new Watched();
        x.quota(0, 0);
        due("a TREE of no bytes", x.commit(0, 0), 0);
        due("again", x.commit(1, 0), 1);
        file(x, 0, 0);
        x.entry(0, 1, 0);
        due("7 bytes", x.commit(0, 0), OVER);
        due("another owner's QUOTA is as it was", x.commit(0, 1), 2);
    }

    private static void quotaOnce() {
        Watched x = new Watched();
        file(x, 0, 0, 0, 0, 0, 16, 0, 0, 0, 16);
        file(x, 0, 1, 0, 0, 0, 16);
        x.entry(0, 1, 0);
        x.entry(0, 2, 0);
        x.entry(0, 3, 1);
        int bytes = 12 + 7 + 5 + 4;
        x.quota(0, bytes - 1);
        due("one less", x.commit(0, 0), OVER);
        x.quota(0, bytes);
        due("a PIECE of three, a LIST of two", x.commit(0, 0), 0);
        due("and those of a SNAPSHOT of his", x.commit(0, 0), 1);
        due("owned", x.owned(0), bytes);
        due("bytes that it reaches", x.head(0, 6), bytes);
    }

    private static void quotaOfTwoKinds() {
        int list = 65535;
        while (pieceOfList(list) == null) {
            list--;
        }
        int[] first = pieceOfList(list);
        int[] piece = forged(PIECE, list, 1, 1, -1, -1, -1);
        due("one PIECE", pieces(piece), 1);
        due("a DIGEST of 16 bits", list >> 15, 1);
        int bytes = 8 + first.length + 5 + 5 + 5;
        for (int quota = bytes - 1; quota <= bytes; quota++) {
            Watched x = new Watched();
            file(x, 0, 0, first);
            file(x, 0, 1, piece);
            x.entry(0, 1, 0);
            x.entry(0, 2, 1);
            due("a PIECE of that DIGEST", x.rowOf(PIECE, list), 2);
            due("a LIST of that DIGEST", x.rowOf(LIST, list), 1);
            x.quota(0, quota);
            due("commit, QUOTA " + quota, x.commit(0, 0), quota < bytes ? OVER : 0);
        }
    }

    /**
     * A PIECE is named ahead of and behind another one whose row lies. The row of the first then tells another RECORD of
     * the same DIGEST, with five bytes instead of four.
     */
    private static void quotaFoundFirst() {
        int[] five = forged(PIECE, onePiece(), 1, 1, -1, -1, -1);
        int between = digest(PIECE, 0, 0, 0, 48);
        for (int quota = 20; quota <= 21; quota++) {
            Watched x = new Watched();
            file(x, 0, 9, uncut(64, 0));
            x.compare(false);
            file(x, 0, 0, joined(row(0, 0, 0, 16), row(0, 0, 0, 48), five));
            due("a LIST of 13", x.rowOf(LIST, listOf(13, onePiece(), between, onePiece())), 4);
            x.entry(0, 1, 0);
            due("the PIECES have 12, but the TREE is kept", x.commit(0, 0), MISSING);
            forge(x, 12, 0, PIECE, onePiece(), five);
            x.lie(x.rowOf(PIECE, between), 77);
            x.quota(0, quota);
            due("4 + 9 + 4 + 4 bytes, QUOTA " + quota, x.commit(0, 0), quota < 21 ? OVER : 0);
            due("the row tells the other one now", x.row(x.rowOf(PIECE, onePiece()), 3), 0);
            due("five, four and five are not 13", x.owned(0), quota < 21 ? 0 : MISSING);
        }
    }

    private static void quotaOfHis() {
        Watched x = one();
        due("another TREE of the same LIST, for another owner", x.entry(0, 8, 0), 2);
        x.quota(1, 17);
        due("17 bytes", x.commit(0, 1), 1);
        x.remove(0, 7);
        x.quota(2, 16);
        due("with those of his SNAPSHOT 17", x.commit(0, 2), OVER);
        x.quota(2, 17);
        due("QUOTA 17", x.commit(0, 2), 2);
        due("owned by 2", x.owned(2), 17);
        due("owned by 1", x.owned(1), 17);
        x.drop(0);
        due("no more in HEADS", x.owned(2), 13);
    }

    private static void quotaWithoutSnapshots() {
        Watched x = new Watched();
        x.quota(0, 0);
        for (int i = 0; i < 5; i++) {
            due("commit", x.commit(0, 0), i);
        }
        due("owned", x.owned(0), 0);
        due("bytes that it reaches", x.head(4, 6), 0);
    }

    private static void missingAheadOfOver() {
        Watched x = one();
        x.quota(2, 0);
        due("OVER", x.commit(0, 2), OVER);
        x.spoil(0, 8, 1);
        due("MISSING", x.commit(0, 2), MISSING);
        x.spoil(0, 8, 1);
        x.spoil(0, 39, 1);
        x.remove(0, 7);
        x.quota(0, 0);
        due("a SNAPSHOT of another owner", x.commit(0, 0), MISSING);
        x.entry(0, 7, 0);
        due("though the TREE alone is above the QUOTA", x.commit(0, 0), MISSING);
    }

    private static void overLeaves() {
        Watched x = one();
        file(x, 1, 0, 0, 0, 0, 32);
        x.entry(0, 8, 0);
        x.quota(2, 20);
        due("4 + 8 + 5 + 4 bytes", x.commit(0, 2), OVER);
        due("the TREE is kept", x.pack(12, 0), 13);
        due("PACKS", x.count(1), 1);
        due("the other one's open PACK", x.pack(13, 0), 19);
        due("HEADS", x.count(2), 1);
        due("made", x.count(3), 1);
        refused(x, "again", () -> x.commit(0, 2), OVER);
        x.quota(2, 21);
        due("a byte more", x.commit(0, 2), 1);
    }

    private static void snapshotFull() {
        Watched x = nearlyFull(17);
        due("a TREE of 9 and a SNAPSHOT of 12 above 590", x.commit(0, 0), FULL);
        due("the TREE is kept", x.pack(12, 0), 599);
        due("HEADS", x.count(2), 12);
        due("made", x.count(3), 12);
        refused(x, "again", () -> x.commit(0, 0), FULL);
    }

    private static void snapshotClash() {
        Watched x = new Watched();
        file(x, 0, 9, uncut(64, 0));
        file(x, 0, 0, 0, 0, 0, 16);
        x.entry(0, 7, 0);
        forge(x, 12, 0, SNAPSHOT, oneSnapshot(), forged(SNAPSHOT, oneSnapshot(), 3, 0, 9, 0, -1, -1, -1));
        due("commit", x.commit(0, 2), CLASH);
        due("the TREE is kept", x.pack(12, 0), 79 + 19 + 9);
        due("HEADS", x.count(2), 0);
        due("made", x.count(3), 0);
        refused(x, "again", () -> x.commit(0, 2), CLASH);
        x.compare(false);
        due("without COMPARE it is that one", x.commit(0, 2), 0);
        due("its DIGEST", x.head(0, 0), oneSnapshot());
        due("its owner", x.head(0, 1), 3);
        due("its number", x.head(0, 2), 9);
        due("made", x.count(3), 1);
    }

    private static void flushOrder() {
        for (int writer = 0; writer < 2; writer++) {
            Watched x = new Watched();
            file(x, 1, 0, 1);
            file(x, 0, 0, 1, 2);
            due("commit", x.commit(writer, 0), 0);
            due("PACKS", x.count(1), 2);
            due("the first byte in WRITER 0's", x.pack(0, 0), 17 + (writer == 0 ? 17 : 0));
            due("the first byte in WRITER 1's", x.pack(1, 0), 16 + (writer == 1 ? 17 : 0));
            due("open", x.pack(12, 0) + x.pack(13, 0), 0);
        }
    }

    private static void emptyNotFlushed() {
        Watched x = new Watched();
        due("commit", x.commit(1, 0), 0);
        due("PACKS", x.count(1), 1);
        due("TREE and SNAPSHOT", x.pack(0, 0), 17);
        due("commit", x.commit(0, 0), 1);
        due("PACKS", x.count(1), 2);
    }

    /** A SNAPSHOT that is FOUND on the DISK leaves both open PACKS empty, so twelve PACKS are no hindrance. */
    private static void nothingToFlush() {
        Watched x = new Watched();
        file(x, 0, 9, uncut(64, 0));
        for (int i = 0; i < 12; i++) {
            due("commit", x.commit(0, 0), i);
        }
        due("PACKS", x.count(1), 12);
        int[] next = joined(row(0, 0, 13), two(x.head(11, 0)), two(x.head(11, 4)));
        forge(x, 0, 0, SNAPSHOT, digest(SNAPSHOT, next), next);
        due("commit", x.commit(0, 0), 12);
        due("its DIGEST", x.head(12, 0), digest(SNAPSHOT, next));
        due("another", x.commit(0, 0), FULL);
    }

    private static void flushFull() {
        Watched x = fullDisk();
        x.drop(5);
        due("clean", x.clean(), 1);
        file(x, 0, 0, 1);
        file(x, 1, 0, 2);
        due("room for one of two", x.commit(1, 0), FULL);
        due("WRITER 0's was flushed and stays", x.pack(5, 0), 16);
        due("it is empty", x.pack(12, 0), 0);
        due("WRITER 1's has its SNAPSHOT", x.pack(13, 0), 16 + 12);
        due("HEADS", x.count(2), 11);
        due("made", x.count(3), 12);
        refused(x, "room for none", () -> x.commit(1, 0), FULL);
        due("files stay", x.entry(1, 1, 0), 1);
    }

    private static void treeStays() {
        Watched x = one();
        due("entries", x.count(5), 1);
        due("entry", x.entry(0, 8, 0), 2);
        due("commit", x.commit(0, 2), 1);
        due("entries", x.count(5), 2);
        due("entries of the first", x.head(0, 5), 1);
        due("entries of the second", x.head(1, 5), 2);
        due("files stay", x.entry(0, 9, 0), 3);
        due("not WRITER 1's", x.count(6), 0);
    }
}
