import java.util.Arrays;

/** The boundary cases of "What it is" and "Terms": a test for each sentence that names one. */
public final class BlockEdgesTest extends Kit {
    public static void main(String[] args) {
        test("BLOCKS have a KIND", BlockEdgesTest::sameBytesOfTwoKinds);
        test("a block of no bytes", BlockEdgesTest::noBytes);
        test("at most 210 bytes", BlockEdgesTest::mostBytes);
        test("a DIGEST of 0: a PIECE", BlockEdgesTest::pieceOfZero);
        test("a DIGEST of 0: a LIST", BlockEdgesTest::listOfZero);
        test("a DIGEST of 0: a TREE", BlockEdgesTest::treeOfZero);
        test("a DIGEST of 0: a SNAPSHOT", BlockEdgesTest::snapshotOfZero);
        test("h = (33 h) xor it, its lowest 16 bits", BlockEdgesTest::lowestBits);
        test("numbers of two bytes have the higher one first", BlockEdgesTest::higherFirst);
        test("a PACK: a row of at most 600 bytes", BlockEdgesTest::sixHundred);
        test("if that PACK would be above 600, it is FLUSHED first", BlockEdgesTest::aboveSixHundred);
        test("as long as KIND is 1 .. 4", BlockEdgesTest::kinds);
        test("and its bytes are there", BlockEdgesTest::bytesAreThere);
        test("what does not go on so is nothing", BlockEdgesTest::nothingBehind);
        test("a RECORD is RIGHT, if its DIGEST is that of its KIND and bytes", BlockEdgesTest::right);
        test("PACKS 0 .. 11", BlockEdgesTest::twelvePacks);
        test("a RECORD at its place that READING that PACK comes to", BlockEdgesTest::recordInAPiece);
        test("a RECORD at its place", BlockEdgesTest::placesOfLies);
        test("a RECORD at place 0 of PACK 0", BlockEdgesTest::firstPlace);
        test("of that KIND", BlockEdgesTest::otherKind);
        test("of that DIGEST", BlockEdgesTest::otherDigest);
        test("and RIGHT", BlockEdgesTest::notRight);
        test("or without a row", BlockEdgesTest::withoutRow);
        test("all RIGHT RECORDS of PACKS 0 .. 13, in order", BlockEdgesTest::anewInOrder);
        test("each KIND and DIGEST once: the first", BlockEdgesTest::anewOnce);
        test("without one it is MISSING (once in a FINDING)", BlockEdgesTest::missing);
        test("with COMPARE, and other bytes: CLASH", BlockEdgesTest::clash);
        test("other bytes: more or fewer of them", BlockEdgesTest::clashOfLengths);
        test("else it is that one", BlockEdgesTest::thatOne);
        test("in the other WRITER's open PACK: that is FLUSHED first", BlockEdgesTest::flushOfTheOther);
        test("its RECORD comes behind the WRITER's open PACK, and a row", BlockEdgesTest::recordAndRow);
        test("the least PACK that is not there", BlockEdgesTest::leastPack);
        test("rows are as they were, with the new PACK's number", BlockEdgesTest::rowsOfAFlush);
        test("FULL: all twelve are there", BlockEdgesTest::allTwelve);
        test("what was kept before a CLASH stays", BlockEdgesTest::keptBeforeClash);
        test("what was kept before FULL stays", BlockEdgesTest::keptBeforeFull);
        end();
    }

    // ---- blocks

    private static void sameBytesOfTwoKinds() {
        Watched x = new Watched();
        file(x, 0, 0);
        file(x, 0, 1, 0, 0, 0);
        due("the LIST 0, 0, 0", x.rowOf(LIST, digest(LIST, 0, 0, 0)), 0);
        due("the PIECE 0, 0, 0", x.rowOf(PIECE, digest(PIECE, 0, 0, 0)), 1);
        due("rows", x.count(0), 3);
        due("their digests are not the same", digest(LIST, 0, 0, 0) == digest(PIECE, 0, 0, 0) ? 1 : 0, 0);
    }

    private static void noBytes() {
        Watched x = new Watched();
        due("commit of no entries", x.commit(0, 0), 0);
        due("its TREE's digest", x.head(0, 4), 5536);
        int[] want = {3, 0, 0, 5536 >> 8, 5536 & 255, 4};
        for (int i = 0; i < want.length; i++) {
            due("byte " + i, x.packByte(0, i), want[i]);
        }
        due("RECORDS", x.pack(0, 1), 2);
        due("those that are RIGHT", x.pack(0, 2), 2);
        due("entries", x.head(0, 5), 0);
        due("bytes that it reaches", x.head(0, 6), 0);
        due("whole", x.broken(), 0);
        due("it is kept once", x.commit(1, 0), 1);
        due("a SNAPSHOT alone", x.pack(1, 0), 12);
    }

    /** A tape of 400 bytes has 100 PIECES at most, so no LIST has more than 203 bytes. */
    private static void mostBytes() {
        Watched x = new Watched();
        int[] bytes = new int[400];
        for (int i = 0; i < 400; i++) {
            bytes[i] = i % 4 == 3 ? 16 * (i / 4 & 1) : 0;
        }
        tape(x, bytes);
        due("PIECES", x.file(0, 0), 100);
        due("two PIECES and the LIST", x.pack(12, 0), 9 + 9 + 208);
        due("its number of bytes", x.packByte(12, 19) * 256 + x.packByte(12, 20), 203);
        x.entry(0, 1, 0);
        due("commit", x.commit(0, 0), 0);
        due("bytes that it reaches", x.head(0, 6), 4 + 4 + 203 + 4);
        due("load", x.load(0, 1, -1), 400);
        due("byte 3", x.byteOf(3), 0);
        due("byte 399", x.byteOf(399), 16);
    }

    private static void lowestBits() {
        Watched x = new Watched();
        file(x, 0, 0, 255);
        due("33 times 5,382 is above 16 bits", x.row(0, 1), 45200);
        due("the digest in the RECORD", x.packByte(12, 3) * 256 + x.packByte(12, 4), 45200);
        file(x, 0, 1, uncut(64, 1));
        due("64 bytes", x.rowOf(PIECE, digest(PIECE, uncut(64, 1))), 2);
        due("RIGHT", x.pack(12, 2), 4);
    }

    /** The store of a FILE of these bytes under the name 7; all is asked twice, for what one call leaves to the next. */
    private static Watched wholeWith(int bytesReached, int... bytes) {
        Watched x = new Watched();
        tape(x, bytes);
        due("one PIECE", x.file(0, 0), 1);
        due("entry", x.entry(0, 7, 0), 1);
        due("commit", x.commit(0, 0), 0);
        for (int i = 0; i < 2; i++) {
            due("load", x.load(0, 7, -1), bytes.length);
            due("bytes that it reaches", x.head(0, 6), bytesReached);
            due("owned", x.owned(0), bytesReached);
            due("whole", x.broken(), 0);
        }
        due("clean", x.clean(), 0);
        due("kept once", x.commit(0, 0), 1);
        due("a SNAPSHOT alone", x.pack(1, 0), 12);
        return x;
    }

    private static void pieceOfZero() {
        int[] bytes = forged(PIECE, 0, 1, 1, -1, -1, -1);
        due("one PIECE", pieces(bytes), 1);
        Watched x = wholeWith(5 + 5 + 4, bytes);
        due("its DIGEST", x.row(0, 1), 0);
        x.cut(x.count(4));
        tape(x, forged(PIECE, 0, -1, -1, -1));
        due("other bytes", x.file(0, 1), CLASH);
    }

    private static void listOfZero() {
        int[] bytes = pieceOfList(0);
        Watched x = wholeWith(bytes.length + 5 + 4, bytes);
        due("its DIGEST", x.row(1, 1), 0);
        x.drop(1);
        x.drop(0);
        x.remove(0, 7);
        file(x, 0, 1);
        x.entry(0, 1, 1);
        due("the FILE holds it", x.clean(), 1);
        due("load is of no HEAD", x.load(0, 7, -1), BAD);
        due("it is there", x.rowOf(LIST, 0) >= 0 ? 1 : 0, 1);
    }

    private static void treeOfZero() {
        int[] names = namesOfTree(0, digest(LIST, 0, 0, 0));
        Watched x = new Watched();
        file(x, 0, 0);
        for (int name : names) {
            x.entry(0, name, 0);
        }
        due("commit", x.commit(0, 0), 0);
        due("its DIGEST", x.head(0, 4), 0);
        due("entries", x.head(0, 5), 3);
        due("bytes that it reaches", x.head(0, 6), 15);
        due("load", x.load(0, names[2], -1), 0);
        due("sub", x.sub(1, 1, 0), 1);
        due("commit", x.commit(1, 0), 1);
        due("load", x.load(1, 1, names[0]), 0);
        due("whole", x.broken(), 0);
        due("owned", x.owned(0), 19);
        x.drop(0);
        x.crash(0);
        due("clean", x.clean(), 0);
        due("whole", x.broken(), 0);
    }

    private static void snapshotOfZero() {
        int[] bytes = null;
        for (int i = 0; i < 40 && bytes == null; i++) {
            bytes = forgedOrNull(SNAPSHOT, 0, i % 4, 0, 1 + i / 4, 0, 0, -1, -1);
        }
        Watched x = new Watched();
        for (int made = 1; made < bytes[2]; made++) {
            due("commit", x.commit(1, 0), 0);
            x.drop(0);
        }
        file(x, 0, 0);
        for (int name : namesOfTree(bytes[5] << 8 | bytes[6], digest(LIST, 0, 0, 0))) {
            x.entry(0, name, 0);
        }
        due("clean", x.clean() >= 0 ? 1 : 0, 1);
        due("commit", x.commit(0, bytes[0]), 0);
        due("its DIGEST", x.head(0, 0), 0);
        due("its number", x.head(0, 2), bytes[2]);
        due("bytes that it reaches", x.head(0, 6), 15);
        due("sub", x.sub(1, 1, 0), 1);
        due("commit", x.commit(1, 0), 1);
        due("the one before", x.head(1, 3), 0);
        due("whole", x.broken(), 0);
        due("owned", x.owned(bytes[0]), bytes[0] == 0 ? 19 : 15);
        due("clean", x.clean(), 0);
        due("drop", x.drop(0), 1);
    }

    private static void higherFirst() {
        Watched x = new Watched();
        file(x, 0, 0, uncut(320, 0));
        due("five PIECES and a LIST", x.pack(12, 0), 5 * 69 + 18);
        due("n, the higher one", x.packByte(12, 350), 1);
        due("n, the lower one", x.packByte(12, 351), 64);
        int first = digest(PIECE, uncut(64, 0));
        due("a digest, the higher byte", x.packByte(12, 3), first >> 8);
        due("a digest, the lower byte", x.packByte(12, 4), first & 255);
        x.spoil(12, 1, 1);
        x.spoil(12, 2, 64 ^ 15);
        due("a RECORD of 256 + 15 bytes instead of four", x.pack(12, 1), 3);
        due("RIGHT", x.pack(12, 2), 2);
    }

    // ---- PACKS

    /** An open PACK of 558 bytes and a FILE of one PIECE more, which takes 15 bytes beside those of the PIECE. */
    private static Watched nearlyFull(int piece) {
        Watched x = new Watched();
        file(x, 0, 0, uncut(384, 0));
        file(x, 0, 1, uncut(64, 9));
        file(x, 0, 2, uncut(30, 5));
        due("open PACK", x.pack(12, 0), 558);
        file(x, 0, 3, uncut(piece, 3));
        return x;
    }

    private static void sixHundred() {
        Watched x = nearlyFull(27);
        due("600 bytes", x.pack(12, 0), 600);
        due("nothing is on the DISK", x.count(1), 0);
        due("RECORDS", x.pack(12, 1), 13);
        due("RIGHT", x.pack(12, 2), 13);
        due("the last byte", x.packByte(12, 599), digest(PIECE, uncut(27, 3)) & 255);
        due("none behind it", x.packByte(12, 600), BAD);
        file(x, 0, 4, 1, 2, 3);
        due("PACK 0", x.pack(0, 0), 600);
        due("RIGHT", x.pack(0, 2), 13);
        due("open PACK", x.pack(12, 0), 8 + 10);
        x.entry(0, 1, 3);
        due("commit", x.commit(0, 0), 0);
        due("load", x.load(0, 1, -1), 27);
    }

    private static void aboveSixHundred() {
        Watched x = nearlyFull(28);
        due("the LIST would end at 601", x.pack(0, 0), 591);
        due("it is alone in the open PACK", x.pack(12, 0), 10);
        due("its row", x.row(x.count(0) - 1, 2) * 1000 + x.row(x.count(0) - 1, 3), 12000);
        x = nearlyFull(37);
        due("a PIECE that ends at 600", x.pack(0, 0), 600);
        x.entry(0, 1, 3);
        due("commit", x.commit(0, 0), 0);
        tape(x, new int[37]);
        due("load", x.load(0, 1, -1), 37);
        due("its first byte", x.byteOf(0), uncut(37, 3)[0]);
        due("its last byte", x.byteOf(36), uncut(37, 3)[36]);
        x = nearlyFull(38);
        due("a PIECE that would end at 601", x.pack(0, 0), 558);
        due("PIECE and LIST are in the open PACK", x.pack(12, 0), 43 + 10);
    }

    private static void kinds() {
        int[] kind = {0, 1, 2, 3, 4, 5, 255};
        int[] records = {1, 4, 4, 4, 4, 1, 1};
        for (int i = 0; i < kind.length; i++) {
            Watched x = one();
            if (kind[i] != LIST) {
                due("spoil", x.spoil(0, 9, LIST ^ kind[i]), kind[i]);
            }
            due("RECORDS with a KIND " + kind[i], x.pack(0, 1), records[i]);
            due("rows", x.anew(), kind[i] == LIST ? 4 : records[i] - (records[i] == 4 ? 1 : 0));
        }
        Watched x = one();
        x.spoil(0, 0, 1);
        due("the first RECORD's KIND is 0", x.pack(0, 1), 0);
        due("bytes", x.pack(0, 0), 40);
    }

    /** PACK 0 ends with a SNAPSHOT of 7 bytes at place 28; 5 or 7 of them, left alone, are a RECORD again by chance. */
    private static void bytesAreThere() {
        int[] length = {8, 7, 6, 3, 2, 1, 0};
        int[] records = {3, 4, 4, 4, 5, 4, 5};
        for (int i = 0; i < length.length; i++) {
            Watched x = one();
            write(x, 0, 30, length[i]);
            due("RECORDS, the last of " + length[i] + " bytes", x.pack(0, 1), records[i]);
            due("RIGHT", x.pack(0, 2), length[i] == 7 ? 4 : 3);
            due("bytes", x.pack(0, 0), 40);
        }
        Watched x = one();
        x.spoil(0, 29, 1);
        due("7 + 256 bytes", x.pack(0, 1), 3);
        x = one();
        write(x, 0, 35, record(PIECE, digest(PIECE)));
        write(x, 0, 30, 2);
        due("a RECORD of no bytes at the end is one", x.pack(0, 1), 5);
        due("and RIGHT", x.pack(0, 2), 4);
        write(x, 0, 37, 1);
        due("of one byte it is none", x.pack(0, 1), 4);
    }

    private static void nothingBehind() {
        Watched x = new Watched();
        file(x, 0, 0, 0, 0, 0, 16);
        x.spoil(12, 0, 255);
        due("RECORDS", x.pack(12, 1), 0);
        file(x, 0, 1, 0, 0, 0, 32);
        due("RECORDS come behind all the same", x.pack(12, 0), 38);
        due("they are nothing", x.pack(12, 1), 0);
        due("the LIST's row, behind which nothing was looked for", x.count(0), 1);
        file(x, 0, 1, 0, 0, 0, 32);
        due("they are not FOUND, so they come again", x.pack(12, 0), 57);
        x.entry(0, 1, 1);
        due("the TREE that was kept is not FOUND", x.commit(0, 0), MISSING);
        due("rows", x.anew(), 0);
        x.spoil(12, 0, 255);
        due("RECORDS again", x.pack(12, 1), 7);
        due("rows", x.anew(), 5);
        due("commit", x.commit(0, 0), 0);
        x.spoil(0, 9, 255);
        due("on the DISK", x.pack(0, 1), 1);
        due("what is nothing is not rotten", x.rotten(), 0);
        due("it is missing", x.broken(), 1);
    }

    private static void right() {
        int[][] spoils = {{3, 1}, {4, 128}, {5, 1}, {8, 128}, {0, 3}};
        for (int[] s : spoils) {
            Watched x = one();
            x.spoil(0, s[0], s[1]);
            due("RECORDS", x.pack(0, 1), 4);
            due("not RIGHT by byte " + s[0], x.pack(0, 2), 3);
            due("rotten", x.rotten(), 1);
            x.spoil(0, s[0], s[1]);
            due("RIGHT again", x.pack(0, 2), 4);
        }
        Watched x = new Watched();
        file(x, 0, 0, TWIN);
        write(x, 12, 5, OTHER_TWIN);
        due("other bytes of the same DIGEST are RIGHT", x.pack(12, 2), 2);
    }

    private static void twelvePacks() {
        Watched x = disk(11);
        due("PACK 11", x.pack(11, 0), NONE);
        due("commit", x.commit(0, 0), 11);
        due("PACK 11", x.pack(11, 0), 12);
        due("PACK 12 is the open one", x.pack(12, 0), 0);
        refused(x, "spoil of the open one", () -> x.spoil(12, 0, 1), BAD);
        due("all are there", x.count(1), 12);
    }

    // ---- FINDING

    /** A PIECE, not cut inside, in which the RECORD of a PIECE stands from byte 1 on. */
    private static void recordInAPiece() {
        int[] inner = null;
        int[] outer = null;
        for (int i = 1; i < 16 && outer == null; i++) {
            inner = row(0, 0, 0, 16 * i);
            int[] bytes = joined(row(3), record(PIECE, digest(PIECE, inner), inner));
            outer = pieces(bytes) == 1 ? bytes : null;
        }
        Watched x = new Watched();
        file(x, 0, 0, inner);
        file(x, 0, 1, outer);
        x.entry(0, 7, 0);
        due("commit", x.commit(0, 0), 0);
        due("the outer PIECE", x.row(2, 3), 19);
        due("the RECORD in it", x.packByte(0, 19 + 5 + 1), PIECE);
        due("lie", x.lie(0, 19 + 5 + 1), 0);
        due("load", x.load(0, 7, -1), 4);
        due("READING does not come to it, so the row was made anew", x.row(0, 3), 0);
    }

    private static void placesOfLies() {
        int[] places = {1, 8, 9, 28, 39, 40, 599};
        for (int place : places) {
            Watched x = one();
            due("lie", x.lie(0, place), 0);
            due("load, with the place " + place, x.load(0, 7, -1), 4);
            due("its last byte", x.byteOf(3), 16);
            due("the row is made anew", x.row(0, 3), 0);
        }
        Watched x = one();
        x.lie(0, 9);
        x.lie(0, 0);
        x.lie(3, 1);
        due("a row that tells the truth again", x.load(0, 7, -1), 4);
        due("all rows were made anew for the SNAPSHOT", x.row(3, 3), 28);
    }

    /** Room for forged RECORDS at place 0, then the PIECE 0, 0, 0, 16 at 79, its LIST at 88, under the name 7. */
    private static Watched withRoom() {
        Watched x = new Watched();
        file(x, 0, 9, uncut(64, 0));
        file(x, 0, 0, 0, 0, 0, 16);
        x.entry(0, 7, 0);
        due("commit", x.commit(0, 2), 0);
        due("the PIECE's place", x.row(2, 3), 79);
        return x;
    }

    /** Each block that a load through a TREE in a TREE needs is told at the first place of all, one after the other. */
    private static void firstPlace() {
        for (int kind = PIECE; kind <= SNAPSHOT; kind++) {
            Watched x = withRoom();
            x.remove(0, 7);
            x.sub(0, 8, 0);
            due("commit", x.commit(0, 1), 1);
            int[] old = x.bytesOf(0);
            int[] places = {79, 88, 98, 107};
            int at = places[kind - 1];
            int length = old[at + 2];
            int digest = old[at + 3] << 8 | old[at + 4];
            forge(x, 0, 0, kind, digest, Arrays.copyOfRange(old, at + 5, at + 5 + length));
            x.anew();
            due("KIND " + kind + " is told there", x.rowOf(kind, digest), 0);
            due("load", x.load(1, 8, 7), 4);
            due("load of HEAD 0", x.load(0, 7, -1), 4);
            due("entries", x.head(0, 5), 1);
            due("bytes that it reaches", x.head(1, 6), 4 + 13);
            due("sub", x.sub(1, 1, 0), 1);
            due("owned", x.owned(2), 13);
            due("whole", x.broken(), 0);
            file(x, 1, 1, 0, 0, 0, 16);
            due("it is kept once", x.pack(13, 0), 0);
            due("commit", x.commit(0, 1), 2);
        }
    }

    private static void otherKind() {
        Watched x = withRoom();
        forge(x, 0, 0, LIST, onePiece(), forged(LIST, onePiece(), 9, -1, -1, -1));
        due("RECORDS", x.pack(0, 1), 7);
        due("rotten: what is left of the room", x.rotten(), 1);
        due("lie", x.lie(2, 0), 79);
        due("load", x.load(0, 7, -1), 4);
        due("the PIECE's row is made anew", x.row(x.rowOf(PIECE, onePiece()), 3), 79);
        due("a LIST of the same DIGEST has a row too", x.rowOf(LIST, onePiece()), 0);
    }

    private static void otherDigest() {
        Watched x = withRoom();
        due("lie", x.lie(2, 0), 79);
        due("load", x.load(0, 7, -1), 4);
        due("the row is made anew", x.row(2, 3), 79);
    }

    private static void notRight() {
        Watched x = withRoom();
        x.spoil(0, 79 + 5, 64);
        due("load", x.load(0, 7, -1), MISSING);
        due("it has no row", x.rowOf(PIECE, onePiece()), -1);
        x.spoil(0, 79 + 5, 64);
        due("load", x.load(0, 7, -1), 4);
        due("it has one", x.row(2, 3), 79);
    }

    private static void withoutRow() {
        Watched x = one();
        x.spoil(0, 8, 1);
        file(x, 1, 0, 0, 0, 0, 16);
        due("its row is the open PACK's", x.row(x.rowOf(PIECE, onePiece()), 2), 13);
        x.spoil(0, 8, 1);
        due("crash", x.crash(1), 9);
        due("no row", x.rowOf(PIECE, onePiece()), -1);
        due("load", x.load(0, 7, -1), 4);
        due("rows", x.count(0), 4);
        due("the row is the first", x.rowOf(PIECE, onePiece()), 0);
    }

    private static void anewInOrder() {
        Watched x = one();
        due("a second PACK", x.commit(0, 0), 1);
        file(x, 1, 0, 0, 0, 0, 32);
        file(x, 0, 1, 0, 0, 0, 48);
        due("spoil", x.spoil(0, 9 + 5, 1), 1);
        due("anew", x.anew(), 8);
        int[] packs = {0, 0, 0, 1, 12, 12, 13, 13};
        int[] places = {0, 19, 28, 0, 0, 9, 0, 9};
        for (int i = 0; i < packs.length; i++) {
            due("PACK of row " + i, x.row(i, 2), packs[i]);
            due("place of row " + i, x.row(i, 3), places[i]);
        }
    }

    private static void anewOnce() {
        Watched x = one();
        x.spoil(0, 8, 1);
        file(x, 1, 0, 0, 0, 0, 16);
        due("anew", x.anew(), 4);
        due("the one in the open PACK", x.row(x.rowOf(PIECE, onePiece()), 2), 13);
        x.spoil(0, 8, 1);
        due("RIGHT ones in all", x.pack(0, 2) + x.pack(13, 2), 5);
        due("anew", x.anew(), 4);
        due("the first", x.row(x.rowOf(PIECE, onePiece()), 2), 0);
    }

    private static void missing() {
        Watched x = one();
        x.lie(1, 5);
        x.spoil(0, 8, 1);
        due("load", x.load(0, 7, -1), MISSING);
        due("rows", x.count(0), 3);
        due("the LIST's place", x.row(0, 3), 9);
        String before = x.diskAndIndex();
        due("load again", x.load(0, 7, -1), MISSING);
        same("THE INDEX", x.diskAndIndex(), before);
        due("a new one, made anew", x.anew(), 3);
    }

    // ---- KEEPING

    private static void clash() {
        due("twins have one digest", digest(PIECE, TWIN), digest(PIECE, OTHER_TWIN));
        Watched x = new Watched();
        file(x, 0, 0, TWIN);
        tape(x, OTHER_TWIN);
        String before = x.diskAndIndex();
        due("other bytes", x.file(0, 1), CLASH);
        same("THE INDEX", x.diskAndIndex(), before);
        tape(x, OTHER_TWIN);
        due("in the other WRITER's open PACK", x.file(1, 1), CLASH);
        same("nothing is flushed", x.diskAndIndex(), before);
        tape(x, TWIN);
        due("the same bytes", x.file(0, 1), 1);
        same("nothing is kept again", x.diskAndIndex(), before);
        x.compare(false);
        tape(x, OTHER_TWIN);
        due("without COMPARE", x.file(0, 1), 1);
        same("nothing is kept", x.diskAndIndex(), before);
    }

    private static void clashOfLengths() {
        int[][] longer = {{1, 2, -1, -1, -1}, {0, 0, 0, 16, -1, -1, -1}};
        for (int[] bytes : longer) {
            Watched x = withRoom();
            forge(x, 0, 0, PIECE, onePiece(), forged(PIECE, onePiece(), bytes));
            x.anew();
            due("the forged one is found", x.row(x.rowOf(PIECE, onePiece()), 3), 0);
            tape(x, 0, 0, 0, 16);
            due("fewer bytes than " + bytes.length, x.file(0, 1), CLASH);
            x.compare(false);
            tape(x, 0, 0, 0, 16);
            due("without COMPARE", x.file(0, 1), 1);
        }
        Watched x = withRoom();
        int[] three = forged(PIECE, onePiece(), -1, -1, -1);
        forge(x, 0, 0, PIECE, onePiece(), three);
        x.anew();
        tape(x, 0, 0, 0, 16);
        due("more bytes than 3", x.file(0, 1), CLASH);
        tape(x, three);
        due("the same bytes", x.file(0, 1), 1);
    }

    private static void thatOne() {
        Watched x = new Watched();
        file(x, 0, 0, TWIN);
        x.compare(false);
        file(x, 0, 1, OTHER_TWIN);
        x.entry(0, 7, 1);
        due("commit", x.commit(0, 0), 0);
        due("load", x.load(0, 7, -1), 4);
        due("byte 2 of the one that was kept", x.byteOf(2), TWIN[2]);
        due("byte 3", x.byteOf(3), TWIN[3]);
    }

    private static void flushOfTheOther() {
        Watched x = new Watched();
        file(x, 0, 0, TWIN);
        file(x, 0, 1, TWIN);
        due("its own open PACK is not flushed", x.count(1), 0);
        file(x, 1, 0, TWIN);
        due("the other's is", x.pack(0, 0), 19);
        due("and is empty", x.pack(12, 0), 0);
        due("nothing is kept again", x.pack(13, 0), 0);
        file(x, 1, 1, 0, 0, 0, 16);
        file(x, 0, 2, TWIN);
        due("one on the DISK flushes nothing", x.count(1), 1);
        x.compare(false);
        file(x, 0, 2, 0, 0, 0, 48);
        file(x, 1, 1, 0, 0, 0, 48);
        due("without COMPARE too", x.count(1), 2);
        file(x, 0, 3, 0, 0, 0, 16);
        due("WRITER 1's, for WRITER 0", x.count(1), 3);
        due("it is empty", x.pack(13, 0), 0);
    }

    private static void recordAndRow() {
        Watched x = one();
        file(x, 0, 1, 0, 0, 0, 32);
        due("rows", x.count(0), 6);
        due("the PIECE's row", x.row(4, 2) * 1000 + x.row(4, 3), 12000);
        due("the LIST's row", x.row(5, 2) * 1000 + x.row(5, 3), 12009);
        file(x, 1, 1, 0, 0, 0, 48);
        due("rows", x.count(0), 8);
        due("of WRITER 1's open PACK", x.row(6, 2) * 1000 + x.row(6, 3), 13000);
        file(x, 0, 2, 0, 0, 0, 64);
        due("rows", x.count(0), 10);
        due("the last row came last", x.row(9, 2) * 1000 + x.row(9, 3), 12028);
        due("the PIECE's came ahead of the ANEW for its LIST", x.row(6, 2) * 1000 + x.row(6, 3), 12019);
    }

    private static void leastPack() {
        Watched x = fullDisk();
        x.drop(8);
        x.drop(3);
        due("two go", x.clean(), 2);
        due("PACK 3", x.pack(3, 0), NONE);
        due("PACK 8", x.pack(8, 0), NONE);
        due("commit", x.commit(0, 0), 10);
        due("it is PACK 3", x.pack(3, 0), 12);
        due("not PACK 8", x.pack(8, 0), NONE);
        due("commit", x.commit(0, 0), 11);
        due("it is PACK 8", x.pack(8, 0), 12);
    }

    private static void rowsOfAFlush() {
        Watched x = new Watched();
        file(x, 0, 0, TWIN);
        file(x, 0, 1, 0, 0, 0, 16);
        x.lie(2, 77);
        file(x, 1, 0, TWIN);
        int[] kinds = {PIECE, LIST, PIECE, LIST};
        int[] places = {0, 9, 77, 28};
        due("rows", x.count(0), 4);
        for (int i = 0; i < 4; i++) {
            due("KIND of row " + i, x.row(i, 0), kinds[i]);
            due("PACK of row " + i, x.row(i, 2), 0);
            due("place of row " + i, x.row(i, 3), places[i]);
        }
        file(x, 1, 1, 0, 0, 0, 32);
        file(x, 0, 2, 0, 0, 0, 48);
        file(x, 0, 3, 0, 0, 0, 32);
        due("rows of the other open PACK stay", x.row(x.rowOf(PIECE, digest(PIECE, 0, 0, 0, 48)), 2), 12);
        due("those of the flushed one", x.row(x.rowOf(PIECE, digest(PIECE, 0, 0, 0, 32)), 2), 1);
    }

    private static void allTwelve() {
        Watched x = disk(11);
        file(x, 0, 0, 0, 0, 0, 16);
        file(x, 1, 0, 0, 0, 0, 16);
        due("the twelfth", x.pack(11, 0), 19);
        file(x, 0, 1, 0, 0, 0, 32);
        tape(x, 0, 0, 0, 32);
        String before = x.diskAndIndex();
        due("a thirteenth, for what is in the other's open PACK", x.file(1, 1), FULL);
        same("disk and index", x.diskAndIndex(), before);
        file(x, 1, 1, 0, 0, 0, 48);
        due("an open PACK has room all the same", x.pack(13, 0), 19);
        file(x, 1, 2, 0, 0, 0, 16);
        due("what is on the DISK needs none", x.pack(13, 0), 19);
    }

    private static void keptBeforeClash() {
        Watched x = new Watched();
        file(x, 0, 0, TWIN);
        tape(x, joined(row(0, 0, 0, 16), row(0, 0, 0, 32), OTHER_TWIN, row(0, 0, 0, 48)));
        due("the third PIECE", x.file(0, 0), CLASH);
        due("two PIECES stay", x.pack(12, 0), 19 + 9 + 9);
        due("rows", x.count(0), 4);
        due("the second", x.row(3, 1), digest(PIECE, 0, 0, 0, 32));
    }

    private static void keptBeforeFull() {
        Watched x = fullDisk();
        file(x, 0, 0, uncut(384, 0));
        due("open PACK", x.pack(12, 0), 434);
        tape(x, uncut(192, 11));
        due("the third PIECE", x.file(0, 0), FULL);
        due("two PIECES stay", x.pack(12, 0), 434 + 69 + 69);
        due("the second's row is the last", x.row(x.count(0) - 1, 3), 434 + 69);
    }
}
