import java.util.function.IntUnaryOperator;

/**
 * The boundary cases of promises 1 to 26: each refusal at the last argument that is allowed and at the first that is not,
 * on both sides; what a refused call leaves as it was; which refusal comes ahead of which.
 */
public final class CallEdgesTest extends Kit {
    private static final int NOWHERE = 77;
    private static final int[] A = {0, 0, 0, 16}, B = {0, 0, 0, 32};

    public static void main(String[] args) {
        test("promise 1: nothing is kept", CallEdgesTest::nothingIsKept);
        test("promise 1: with COMPARE; QUOTAS 5,000", CallEdgesTest::firstSettings);
        test("promise 2: the highest of each number first", CallEdgesTest::feedBytes);
        test("promise 2: FULL: above 400", CallEdgesTest::feedFull);
        test("promise 3: BAD: it has not so many, n below 0", CallEdgesTest::cut);
        test("promise 4: BAD: none such", CallEdgesTest::byteOf);
        test("promise 5: 1 it was so, 0", CallEdgesTest::compare);
        test("promise 6: owner 0 .. 3, QUOTA 0 .. 10,000", CallEdgesTest::quota);
        test("promise 7: BAD: no such WRITER, number (the tape stays)", CallEdgesTest::fileBad);
        test("promise 7: instead of what was there", CallEdgesTest::fileInstead);
        test("promise 7: CLASH: there is what was there (the tape is empty)", CallEdgesTest::fileClash);
        test("promise 7: FULL: there is what was there (the tape is empty)", CallEdgesTest::fileFull);
        test("promise 8: BAD: none such (also no FILE of this number)", CallEdgesTest::entryBad);
        test("promise 8: FULL: 12", CallEdgesTest::entryFull);
        test("promise 9: BAD: none such", CallEdgesTest::subBad);
        test("promise 9: FULL: 12 (ahead of MISSING)", CallEdgesTest::subFull);
        test("promise 9: MISSING: that SNAPSHOT is", CallEdgesTest::subMissing);
        test("promise 10: BAD: none such", CallEdgesTest::remove);
        test("promise 11: BAD: none such", CallEdgesTest::commitBad);
        test("promise 11: FULL (also 20 HEADS, looked at first)", CallEdgesTest::twentyHeads);
        test("promise 12: BAD: none such", CallEdgesTest::crashBad);
        test("promise 12: open PACK, FILES, TREE in work and rows of that PACK", CallEdgesTest::crash);
        test("promise 13: BAD: none such", CallEdgesTest::drop);
        test("promise 14: BAD: no such HEAD", CallEdgesTest::loadBad);
        test("promise 14: NONE: the tape stays", CallEdgesTest::loadNone);
        test("promise 14: with b not - 1", CallEdgesTest::loadWithB);
        test("promise 14: MISSING: a block that is needed for it (the tape is empty)", CallEdgesTest::loadMissing);
        test("promise 14: MISSING ahead of NONE, and NONE ahead of MISSING", CallEdgesTest::loadMissingOrNone);
        test("promise 14: the PIECES of its LIST, each as it is FOUND", CallEdgesTest::loadAsFound);
        test("promise 15: BAD: none such", CallEdgesTest::headBad);
        test("promise 15: MISSING: a block that is needed for that", CallEdgesTest::headMissing);
        test("promise 16: BAD: none such", CallEdgesTest::ownedBad);
        test("promise 16: MISSING: a SNAPSHOT of HEADS, or what the owner's reach", CallEdgesTest::ownedMissing);
        test("promise 17: nothing to clean", CallEdgesTest::cleanNothing);
        test("promise 18: BAD: none such, mask not 1 .. 255", CallEdgesTest::spoil);
        test("promise 19: BAD: none such, place not 0 .. 599", CallEdgesTest::lie);
        test("promise 20: how many rows", CallEdgesTest::anew);
        test("promise 21: RECORDS of PACKS 0 .. 11", CallEdgesTest::rotten);
        test("promise 22: bits of twenty HEADS", CallEdgesTest::brokenBits);
        test("promise 23: NONE: it is not there", CallEdgesTest::packNone);
        test("promise 23: BAD: none such", CallEdgesTest::packBad);
        test("promise 24: BAD: none such", CallEdgesTest::packByte);
        test("promise 25: BAD: none such", CallEdgesTest::rowBad);
        test("promise 26: BAD: another number", CallEdgesTest::count);
        end();
    }

    /** A call with an argument below and above those that are allowed is BAD and changes nothing. */
    private static void bounds(Watched x, String what, IntUnaryOperator call, int least, int most) {
        int[] wrong = {LEAST, least - 1, most + 1, GREATEST};
        for (int n : wrong) {
            refused(x, what + " " + n, () -> call.applyAsInt(n), BAD);
        }
    }

    // ---- 1 .. 6

    private static void nothingIsKept() {
        Watched x = new Watched();
        for (int what = 0; what < 7; what++) {
            due("count " + what, x.count(what), 0);
        }
        refused(x, "byteOf", () -> x.byteOf(0), BAD);
        refused(x, "cut of 1", () -> x.cut(1), BAD);
        refused(x, "cut of 0", () -> x.cut(0), 0);
        for (int number = 0; number < 10; number++) {
            due("entry of FILE " + number, x.entry(0, 0, number), BAD);
            due("entry of FILE " + number, x.entry(1, 0, number), BAD);
        }
        refused(x, "sub", () -> x.sub(0, 0, 0), BAD);
        refused(x, "remove", () -> x.remove(1, 0), BAD);
        refused(x, "crash", () -> x.crash(0), 0);
        refused(x, "drop", () -> x.drop(0), BAD);
        refused(x, "load", () -> x.load(0, 0, -1), BAD);
        refused(x, "head", () -> x.head(0, 0), BAD);
        refused(x, "lie", () -> x.lie(0, 0), BAD);
        refused(x, "row", () -> x.row(0, 0), BAD);
        refused(x, "clean", x::clean, 0);
        refused(x, "anew", x::anew, 0);
        for (int p = 0; p < 14; p++) {
            due("packByte of " + p, x.packByte(p, 0), BAD);
            due("spoil of " + p, x.spoil(p, 0, 1), BAD);
            due("bytes of " + p, x.pack(p, 0), p < 12 ? NONE : 0);
        }
        due("rotten", x.rotten(), 0);
        due("broken", x.broken(), 0);
    }

    private static void firstSettings() {
        Watched x = new Watched();
        for (int owner = 0; owner < 4; owner++) {
            due("QUOTA of " + owner, x.quota(owner, 0), 5000);
        }
        due("COMPARE", x.compare(false), 1);
    }

    private static void feedBytes() {
        Watched x = new Watched();
        due("feed", x.feed(LEAST, GREATEST, -1, 0x01020304, 0xFEDCBA98), 20);
        int[] want = {128, 0, 0, 0, 127, 255, 255, 255, 255, 255, 255, 255, 1, 2, 3, 4, 254, 220, 186, 152};
        for (int i = 0; i < 20; i++) {
            due("byte " + i, x.byteOf(i), want[i]);
        }
    }

    private static void feedFull() {
        Watched x = new Watched();
        tape(x, uncut(380, 0));
        due("to 400", x.feed(1, 2, 3, 4, 5), 400);
        refused(x, "400 and 20", () -> x.feed(6, 7, 8, 9, 10), FULL);
        due("cut", x.cut(19), 381);
        refused(x, "381 and 20", () -> x.feed(6, 7, 8, 9, 10), FULL);
        due("cut", x.cut(1), 380);
        due("380 and 20", x.feed(6, 7, 8, 9, 10), 400);
        due("byte 383", x.byteOf(383), 6);
        due("byte 399", x.byteOf(399), 10);
    }

    private static void cut() {
        Watched x = new Watched();
        tape(x, uncut(21, 0));
        bounds(x, "cut", x::cut, 0, 21);
        refused(x, "cut of 0", () -> x.cut(0), 21);
        due("cut of 20", x.cut(20), 1);
        due("the first is left", x.byteOf(0), uncut(21, 0)[0]);
        refused(x, "cut of 2", () -> x.cut(2), BAD);
        due("cut of all", x.cut(1), 0);
        refused(x, "cut of 1", () -> x.cut(1), BAD);
    }

    private static void byteOf() {
        Watched x = new Watched();
        tape(x, 255, 1, 128);
        bounds(x, "byte", x::byteOf, 0, 2);
        refused(x, "byte 0", () -> x.byteOf(0), 255);
        refused(x, "byte 2", () -> x.byteOf(2), 128);
        x.cut(1);
        refused(x, "a byte that went", () -> x.byteOf(2), BAD);
    }

    private static void compare() {
        Watched x = new Watched();
        due("on, it was on", x.compare(true), 1);
        due("off, it was on", x.compare(false), 1);
        due("off, it was off", x.compare(false), 0);
        due("on, it was off", x.compare(true), 0);
        due("on, it was on", x.compare(true), 1);
    }

    private static void quota() {
        Watched x = new Watched();
        bounds(x, "owner", owner -> x.quota(owner, 100), 0, 3);
        bounds(x, "n", n -> x.quota(0, n), 0, 10000);
        refused(x, "both", () -> x.quota(4, -1), BAD);
        for (int owner = 0; owner < 4; owner += 3) {
            due("0", x.quota(owner, 0), 5000);
            due("10,000", x.quota(owner, 10000), 0);
            due("5,000", x.quota(owner, 5000), 10000);
        }
    }

    // ---- 7 .. 12

    private static void fileBad() {
        Watched x = new Watched();
        file(x, 0, 0, A);
        tape(x, B);
        bounds(x, "writer", writer -> x.file(writer, 0), 0, 1);
        bounds(x, "number", number -> x.file(0, number), 0, 9);
        due("the last of both", x.file(1, 9), 1);
        tape(x, B);
        due("the first of both", x.file(0, 0), 1);
    }

    private static void fileInstead() {
        Watched x = new Watched();
        file(x, 0, 0, A);
        x.entry(0, 1, 0);
        file(x, 0, 0, joined(B, B));
        x.entry(0, 2, 0);
        due("the tape is empty", x.count(4), 0);
        due("commit", x.commit(0, 0), 0);
        due("an entry is the FILE as it was", x.load(0, 1, -1), 4);
        due("its last byte", x.byteOf(3), 16);
        due("instead of it", x.load(0, 2, -1), 8);
    }

    private static void fileClash() {
        Watched x = new Watched();
        file(x, 0, 0, TWIN);
        tape(x, OTHER_TWIN);
        due("CLASH", x.file(0, 0), CLASH);
        due("the tape is empty", x.count(4), 0);
        tape(x, OTHER_TWIN);
        due("CLASH where none was", x.file(0, 1), CLASH);
        due("there is none", x.entry(0, 1, 1), BAD);
        due("there is what was there", x.entry(0, 1, 0), 1);
        due("commit", x.commit(0, 0), 0);
        due("load", x.load(0, 1, -1), 4);
        due("its bytes", x.byteOf(2), TWIN[2]);
        clashOfList();
    }

    /** The PIECES are kept, the LIST has other bytes. */
    private static void clashOfList() {
        Watched x = new Watched();
        file(x, 0, 9, uncut(64, 0));
        forge(x, 12, 0, LIST, listOfOne(A), forged(LIST, listOfOne(A), 0, -1, 1, -1, -1));
        tape(x, A);
        due("CLASH of the LIST", x.file(0, 9), CLASH);
        due("the tape is empty", x.count(4), 0);
        due("its PIECE is kept", x.pack(12, 0), 79 + 9);
        due("the FILE that was there", x.entry(0, 1, 9), 1);
    }

    private static void fileFull() {
        Watched x = fullDisk();
        file(x, 0, 0, A);
        tape(x, A);
        due("FULL where none was", x.file(1, 0), FULL);
        due("the tape is empty", x.count(4), 0);
        due("there is none", x.entry(1, 1, 0), BAD);
        file(x, 1, 0, B);
        tape(x, A);
        due("FULL", x.file(1, 0), FULL);
        due("there is what was there", x.entry(1, 1, 0), 1);
        x.drop(11);
        x.drop(10);
        due("clean", x.clean(), 2);
        due("commit", x.commit(1, 0), 10);
        due("load", x.load(10, 1, -1), 4);
        due("its last byte", x.byteOf(3), 32);
        fullAtList();
    }

    private static void fullAtList() {
        Watched x = fullDisk();
        file(x, 0, 0, uncut(384, 0));
        file(x, 0, 1, uncut(64, 9));
        file(x, 0, 2, uncut(61, 5));
        due("open PACK", x.pack(12, 0), 589);
        tape(x, 7);
        due("6 and no more: a LIST of 10", x.file(0, 2), FULL);
        due("its PIECE is kept", x.pack(12, 0), 595);
        due("the tape is empty", x.count(4), 0);
    }

    private static void entryBad() {
        Watched x = new Watched();
        file(x, 0, 0, A);
        file(x, 1, 9, A);
        bounds(x, "writer", writer -> x.entry(writer, 1, 0), 0, 1);
        bounds(x, "name", name -> x.entry(0, name, 0), 0, 255);
        bounds(x, "number", number -> x.entry(0, 1, number), 0, 9);
        refused(x, "no FILE of this number", () -> x.entry(0, 1, 1), BAD);
        refused(x, "the other WRITER's FILE", () -> x.entry(1, 1, 0), BAD);
        due("the first of all", x.entry(0, 0, 0), 1);
        due("the last of all", x.entry(1, 255, 9), 1);
    }

    private static Watched withTwelveEntries() {
        Watched x = one();
        for (int i = 2; i <= 12; i++) {
            due("entry", x.entry(0, 10 * i, 0), i);
        }
        return x;
    }

    private static void entryFull() {
        Watched x = withTwelveEntries();
        refused(x, "a thirteenth at the front", () -> x.entry(0, 0, 0), FULL);
        refused(x, "in the middle", () -> x.entry(0, 65, 0), FULL);
        refused(x, "at the end", () -> x.entry(0, 255, 0), FULL);
        refused(x, "BAD is ahead of FULL: no FILE", () -> x.entry(0, 65, 1), BAD);
        refused(x, "BAD is ahead of FULL: name", () -> x.entry(0, 256, 0), BAD);
        refused(x, "the first that is there", () -> x.entry(0, 7, 0), 12);
        refused(x, "the last that is there", () -> x.entry(0, 120, 0), 12);
        file(x, 1, 0, A);
        due("the other WRITER has room", x.entry(1, 0, 0), 1);
    }

    private static void subBad() {
        Watched x = one();
        due("commit", x.commit(0, 0), 1);
        bounds(x, "writer", writer -> x.sub(writer, 1, 0), 0, 1);
        bounds(x, "name", name -> x.sub(1, name, 0), 0, 255);
        bounds(x, "HEAD", k -> x.sub(1, 1, k), 0, 1);
        due("the first of all", x.sub(0, 0, 0), 2);
        due("the last of all", x.sub(1, 255, 1), 1);
    }

    private static void subFull() {
        Watched x = withTwelveEntries();
        refused(x, "a thirteenth", () -> x.sub(0, 65, 0), FULL);
        refused(x, "BAD is ahead of FULL: HEAD", () -> x.sub(0, 65, 1), BAD);
        x.spoil(0, 33, 1);
        refused(x, "FULL is ahead of MISSING", () -> x.sub(0, 65, 0), FULL);
        refused(x, "BAD is ahead of all", () -> x.sub(0, 256, 0), BAD);
        due("MISSING under a name that is there", x.sub(0, 7, 0), MISSING);
        x.spoil(0, 33, 1);
        due("instead of what is there", x.sub(0, 7, 0), 12);
        x.remove(0, 120);
        due("a twelfth", x.sub(0, 65, 0), 12);
        due("commit", x.commit(0, 0), 1);
        due("a TREE is there instead", x.load(1, 7, -1), NONE);
        due("what it names", x.load(1, 7, 7), 4);
    }

    private static void subMissing() {
        Watched x = one();
        x.spoil(0, 33, 1);
        x.anew();
        refused(x, "a SNAPSHOT that is not RIGHT", () -> x.sub(0, 7, 0), MISSING);
        refused(x, "under a new name", () -> x.sub(1, 1, 0), MISSING);
        x.spoil(0, 33, 1);
        int[] places = {5, 14, 24};
        for (int place : places) {
            x.spoil(0, place, 1);
        }
        due("its TREE need not be there", x.sub(1, 1, 0), 1);
    }

    private static void remove() {
        Watched x = new Watched();
        file(x, 0, 0, A);
        x.entry(0, 0, 0);
        x.entry(0, 100, 0);
        x.entry(0, 255, 0);
        bounds(x, "writer", writer -> x.remove(writer, 100), 0, 1);
        bounds(x, "name", name -> x.remove(0, name), 0, 255);
        refused(x, "below one", () -> x.remove(0, 99), BAD);
        refused(x, "above one", () -> x.remove(0, 101), BAD);
        refused(x, "the other WRITER", () -> x.remove(1, 100), BAD);
        due("the last name", x.remove(0, 255), 2);
        due("the first name", x.remove(0, 0), 1);
        due("the last entry", x.remove(0, 100), 0);
        refused(x, "again", () -> x.remove(0, 100), BAD);
        due("FILES stay", x.entry(0, 100, 0), 1);
    }

    private static void commitBad() {
        Watched x = one();
        bounds(x, "writer", writer -> x.commit(writer, 0), 0, 1);
        bounds(x, "owner", owner -> x.commit(0, owner), 0, 3);
        due("the first of both", x.commit(0, 0), 1);
        due("the last of both", x.commit(1, 3), 2);
        due("owner 0", x.head(1, 1), 0);
        due("owner 3", x.head(2, 1), 3);
    }

    private static void twentyHeads() {
        Watched x = withTwentyHeads();
        due("HEADS", x.count(2), 20);
        refused(x, "BAD is ahead of FULL", () -> x.commit(0, 4), BAD);
        file(x, 0, 9, A);
        x.entry(0, 7, 9);
        refused(x, "FULL, ahead of KEEPING the TREE", () -> x.commit(0, 1), FULL);
        x.spoil(12, 5, 1);
        refused(x, "FULL, ahead of MISSING", () -> x.commit(0, 1), FULL);
        x.crash(0);
        refused(x, "FULL", () -> x.commit(0, 1), FULL);
        due("drop", x.drop(19), 19);
        due("clean", x.clean(), 1);
        due("a twentieth", x.commit(0, 1), 19);
        refused(x, "FULL again", () -> x.commit(0, 1), FULL);
    }

    private static void crashBad() {
        Watched x = one();
        file(x, 1, 0, B);
        bounds(x, "writer", x::crash, 0, 1);
    }

    private static void crash() {
        for (int writer = 0; writer < 2; writer++) {
            Watched x = one();
            due("commit", x.commit(0, 0), 1);
            int other = 1 - writer;
            file(x, writer, 0, 1);
            file(x, other, 0, 1, 2);
            x.entry(writer, 1, 0);
            x.entry(other, 1, 0);
            due("rows", x.anew(), 9);
            tape(x, 3);
            due("bytes", x.crash(writer), 16);
            due("its PACK", x.pack(12 + writer, 0), 0);
            due("rows", x.count(0), 7);
            due("the rest's", x.row(5, 2) + x.row(6, 2), 2 * (12 + other));
            due("its entries", x.count(5 + writer), 0);
            due("its FILE", x.entry(writer, 1, 0), BAD);
            due("the other's entries", x.count(5 + other), other == 0 ? 2 : 1);
            due("the other's FILE", x.entry(other, 2, 0) > 0 ? 1 : 0, 1);
            due("the tape stays", x.count(4), 1);
            due("HEADS stay", x.count(2), 2);
            due("PACKS stay", x.count(1), 2);
            due("of no bytes", x.crash(writer), 0);
        }
    }

    // ---- 13 .. 17

    private static void drop() {
        Watched x = new Watched();
        for (int i = 0; i < 3; i++) {
            due("commit", x.commit(0, i), i);
        }
        bounds(x, "HEAD", x::drop, 0, 2);
        due("the last", x.drop(2), 2);
        refused(x, "it is gone", () -> x.drop(2), BAD);
        due("the first", x.drop(0), 1);
        due("the one behind moved up", x.head(0, 1), 1);
        due("the only one", x.drop(0), 0);
        refused(x, "none", () -> x.drop(0), BAD);
        due("PACKS stay", x.count(1), 3);
    }

    /** HEAD 0: the FILE A under 7. HEAD 1: that, HEAD 0's TREE under 255, the FILE B under 0. */
    private static Watched twoHeads() {
        Watched x = one();
        file(x, 0, 1, B);
        x.entry(0, 0, 1);
        x.sub(0, 255, 0);
        due("commit", x.commit(0, 1), 1);
        tape(x, 9, 8, 7);
        return x;
    }

    private static void loadBad() {
        Watched x = twoHeads();
        bounds(x, "HEAD", k -> x.load(k, 7, -1), 0, 1);
        due("the first HEAD", x.load(0, 7, -1), 4);
        due("the last HEAD", x.load(1, 0, -1), 4);
        due("its last byte", x.byteOf(3), 32);
    }

    private static void loadNone() {
        Watched x = twoHeads();
        int[] names = {LEAST, -1, 1, 6, 8, 254, 256, 256 + 7, GREATEST};
        for (int name : names) {
            refused(x, "no such entry: " + name, () -> x.load(1, name, -1), NONE);
            refused(x, "no such entry, with b: " + name, () -> x.load(1, name, 7), NONE);
        }
        refused(x, "it is a TREE", () -> x.load(1, 255, -1), NONE);
        refused(x, "a LIST with b", () -> x.load(1, 7, 7), NONE);
        refused(x, "a LIST with b", () -> x.load(1, 0, 0), NONE);
        refused(x, "not of this HEAD", () -> x.load(0, 0, -1), NONE);
    }

    private static void loadWithB() {
        Watched x = twoHeads();
        int[] names = {LEAST, -2, 0, 6, 8, 255, 256 + 7, GREATEST};
        for (int name : names) {
            refused(x, "no such entry: " + name, () -> x.load(1, 255, name), NONE);
            refused(x, "a LIST with b: " + name, () -> x.load(1, 7, name), NONE);
        }
        x.sub(1, 3, 1);
        due("commit", x.commit(1, 1), 2);
        refused(x, "a TREE under b", () -> x.load(2, 3, 255), NONE);
        due("a LIST under b", x.load(2, 3, 0), 4);
        due("its last byte", x.byteOf(3), 32);
        due("the other", x.load(2, 3, 7), 4);
        due("its last byte", x.byteOf(3), 16);
        due("the tape is that alone", x.count(4), 4);
    }

    private static void loadMissing() {
        int[] needed = {5, 14, 24, 33};
        for (int place : needed) {
            Watched x = twoHeads();
            x.spoil(0, place, 1);
            due("needed: byte " + place, x.load(0, 7, -1), MISSING);
            due("the tape is empty", x.count(4), 0);
            tape(x, 1);
            due("of the TREE under a", x.load(1, 255, 7), place == 33 ? 4 : MISSING);
            due("of HEAD 1 itself", x.load(1, 7, -1), place < 19 ? MISSING : 4);
            due("another FILE needs none of them", x.load(1, 0, -1), 4);
        }
        Watched x = twoHeads();
        x.spoil(1, 19 + 5, 1);
        due("HEAD 1's TREE", x.load(1, 0, -1), MISSING);
        due("the tape is empty", x.count(4), 0);
        due("HEAD 0 needs it not", x.load(0, 7, -1), 4);
    }

    private static void loadMissingOrNone() {
        Watched x = twoHeads();
        x.spoil(0, 24, 1);
        x.anew();
        refused(x, "a TREE, though it is MISSING", () -> x.load(1, 255, -1), NONE);
        due("no entry under b of a TREE that is MISSING", x.load(1, 255, 99), MISSING);
        due("the tape is empty", x.count(4), 0);
        due("no entry of a TREE that is MISSING", x.load(0, 99, -1), MISSING);
        tape(x, 1);
        refused(x, "no entry under a", () -> x.load(1, 99, 7), NONE);
        x.spoil(0, 14, 1);
        x.anew();
        refused(x, "a LIST with b, though it is MISSING", () -> x.load(1, 7, 7), NONE);
        x.spoil(0, 33, 1);
        due("no entry, and no SNAPSHOT", x.load(0, 99, -1), MISSING);
        refused(x, "BAD is ahead of all", () -> x.load(2, 99, -1), BAD);
    }

    /** While a LIST is read, rows come to tell other RECORDS: of its own DIGEST, and of a PIECE that is named twice. */
    private static void loadAsFound() {
        int[] five = forged(PIECE, digest(PIECE, A), 1, 1, -1, -1, -1);
        int list = listOf(13, digest(PIECE, A), digest(PIECE, B), digest(PIECE, A));
        Watched x = new Watched();
        file(x, 0, 9, uncut(64, 0));
        x.compare(false);
        file(x, 0, 0, joined(A, B, five));
        x.entry(0, 1, 0);
        due("12 bytes are not 13", x.commit(0, 0), MISSING);
        forge(x, 12, 0, PIECE, digest(PIECE, A), five);
        forge(x, 12, 10, LIST, list, forged(LIST, list, 0, -1, 1, -1, -1));
        int between = x.rowOf(PIECE, digest(PIECE, B));
        x.lie(between, NOWHERE);
        due("commit", x.commit(0, 0), 0);
        due("the LIST is another one now", x.load(0, 1, -1), MISSING);
        write(x, 0, 10, PIECE);
        x.anew();
        due("five, four and five are not 13", x.load(0, 1, -1), MISSING);
        write(x, 0, 0, LIST);
        x.anew();
        write(x, 0, 0, PIECE);
        write(x, 0, 10, LIST);
        x.lie(x.rowOf(PIECE, digest(PIECE, B)), NOWHERE);
        due("four, four and five, of the LIST as it was met", x.load(0, 1, -1), 13);
        int[] want = joined(A, B, five);
        for (int i = 0; i < 13; i++) {
            due("byte " + i, x.byteOf(i), want[i]);
        }
    }

    private static void headBad() {
        Watched x = one();
        due("commit", x.commit(0, 0), 1);
        for (int what = 0; what < 7; what++) {
            int ask = what;
            bounds(x, "HEAD, asked for " + what, k -> x.head(k, ask), 0, 1);
        }
        bounds(x, "what", what -> x.head(0, what), 0, 6);
        x.spoil(0, 33, 1);
        refused(x, "BAD is ahead of MISSING", () -> x.head(0, 7), BAD);
        refused(x, "the last HEAD", () -> x.head(1, 2), 2);
    }

    private static void headMissing() {
        int[] places = {5, 14, 24, 33};
        int[] whole = {5, 5, 4, 0};
        for (int i = 0; i < places.length; i++) {
            Watched x = one();
            int[] want = {oneSnapshot(), 2, 1, 0, oneTree(), 1, 13};
            for (int what = 0; what < 7; what++) {
                due("asked for " + what, x.head(0, what), want[what]);
            }
            x.spoil(0, places[i], 1);
            for (int what = 0; what < 7; what++) {
                due("asked for " + what + " without byte " + places[i], x.head(0, what),
                        what <= whole[i] ? want[what] : MISSING);
            }
        }
        Watched x = one();
        x.lie(3, NOWHERE);
        refused(x, "the DIGEST needs no FINDING", () -> x.head(0, 0), oneSnapshot());
        x.lie(3, 28);
        x.lie(2, NOWHERE);
        refused(x, "its TREE's DIGEST needs no TREE", () -> x.head(0, 4), oneTree());
    }

    private static void ownedBad() {
        Watched x = one();
        bounds(x, "owner", x::owned, 0, 3);
        refused(x, "owner 0", () -> x.owned(0), 0);
        refused(x, "owner 2", () -> x.owned(2), 13);
        refused(x, "owner 3", () -> x.owned(3), 0);
    }

    private static void ownedMissing() {
        int[] places = {5, 14, 24, 33};
        for (int place : places) {
            Watched x = one();
            x.spoil(0, place, 1);
            due("his, without byte " + place, x.owned(2), MISSING);
            due("another's", x.owned(1), place == 33 ? MISSING : 0);
        }
    }

    private static void cleanNothing() {
        Watched x = one();
        refused(x, "clean", x::clean, 0);
        file(x, 1, 0, B);
        x.anew();
        refused(x, "clean", x::clean, 0);
    }

    // ---- 18 .. 26

    private static void spoil() {
        Watched x = one();
        bounds(x, "PACK", pack -> x.spoil(pack, 0, 1), 0, 13);
        for (int pack = 1; pack < 14; pack++) {
            due("a PACK of no bytes: " + pack, x.spoil(pack, 0, 1), BAD);
        }
        bounds(x, "place", place -> x.spoil(0, place, 1), 0, 39);
        bounds(x, "mask", mask -> x.spoil(0, 0, mask), 1, 255);
        due("the first byte, mask 255", x.spoil(0, 0, 255), 254);
        due("the last byte, mask 1", x.spoil(0, 39, 1), oneTree() & 255 ^ 1);
        due("it is so", x.packByte(0, 39), oneTree() & 255 ^ 1);
        file(x, 1, 0, B);
        int last = digest(PIECE, B) & 255;
        bounds(x, "place in an open PACK", place -> x.spoil(13, place, 1), 0, 18);
        due("the last byte of an open PACK", x.spoil(13, 18, 128), last ^ 128);
        due("back again", x.spoil(13, 18, 128), last);
    }

    private static void lie() {
        Watched x = one();
        bounds(x, "row", i -> x.lie(i, 0), 0, 3);
        bounds(x, "place", place -> x.lie(0, place), 0, 599);
        due("the first row, the last place", x.lie(0, 599), 0);
        due("what it told", x.lie(0, 0), 599);
        due("the last row", x.lie(3, 0), 28);
        due("it tells that", x.row(3, 3), 0);
        due("KIND, DIGEST and PACK stay", x.row(3, 0) * 10 + x.row(3, 2), 40);
    }

    private static void anew() {
        Watched x = one();
        refused(x, "anew", x::anew, 4);
        x.spoil(0, 33, 1);
        due("one is not RIGHT", x.anew(), 3);
        x.spoil(0, 0, 255);
        due("no RECORD", x.anew(), 0);
        due("rows", x.count(0), 0);
        refused(x, "row 0", () -> x.row(0, 0), BAD);
        refused(x, "lie", () -> x.lie(0, 0), BAD);
    }

    private static void rotten() {
        Watched x = one();
        refused(x, "none", x::rotten, 0);
        file(x, 0, 1, B);
        x.spoil(12, 5, 1);
        refused(x, "not of PACK 12", x::rotten, 0);
        x.spoil(0, 33, 1);
        refused(x, "the last of PACK 0", x::rotten, 1);
        x.spoil(12, 5, 1);
        x.spoil(0, 33, 1);
        for (int i = 1; i < 11; i++) {
            due("commit", x.commit(1, 0), i);
        }
        due("PACK 11", x.pack(11, 0), 12);
        x.spoil(11, 11, 1);
        due("that of PACK 11", x.rotten(), 1);
    }

    private static void brokenBits() {
        Watched x = withTwentyHeads();
        due("whole", x.broken(), 0);
        int row = x.rowOf(SNAPSHOT, x.head(19, 0));
        x.spoil(x.row(row, 2), x.row(row, 3) + 5, 1);
        due("HEAD 19", x.broken(), 1 << 19);
        row = x.rowOf(SNAPSHOT, x.head(0, 0));
        x.spoil(x.row(row, 2), x.row(row, 3) + 5, 1);
        due("HEAD 0 too", x.broken(), 1 << 19 | 1);
        row = x.rowOf(TREE, digest(TREE));
        x.spoil(x.row(row, 2), x.row(row, 3) + 3, 1);
        due("the TREE of all", x.broken(), (1 << 20) - 1);
        x.drop(19);
        due("nineteen", x.broken(), (1 << 19) - 1);
    }

    private static void packNone() {
        Watched x = one();
        due("PACK 0", x.pack(0, 0), 40);
        for (int p = 1; p < 12; p++) {
            due("bytes of PACK " + p, x.pack(p, 0), NONE);
        }
        due("an open PACK is always there", x.pack(12, 0), 0);
        due("an open PACK is always there", x.pack(13, 0), 0);
        x.crash(0);
        x.drop(0);
        due("clean", x.clean(), 1);
        due("PACK 0 went", x.pack(0, 0), NONE);
    }

    private static void packBad() {
        Watched x = one();
        for (int what = 0; what < 3; what++) {
            int ask = what;
            bounds(x, "PACK, asked for " + what, pack -> x.pack(pack, ask), 0, 13);
        }
        bounds(x, "what", what -> x.pack(0, what), 0, 2);
        bounds(x, "what of a PACK that is not there", what -> x.pack(11, what), 0, 2);
        refused(x, "RECORDS", () -> x.pack(0, 1), 4);
        refused(x, "those that are RIGHT", () -> x.pack(0, 2), 4);
        refused(x, "of PACK 13", () -> x.pack(13, 2), 0);
    }

    private static void packByte() {
        Watched x = one();
        bounds(x, "PACK", pack -> x.packByte(pack, 0), 0, 13);
        bounds(x, "byte", i -> x.packByte(0, i), 0, 39);
        for (int pack = 1; pack < 14; pack++) {
            due("byte 0 of PACK " + pack, x.packByte(pack, 0), BAD);
        }
        refused(x, "the first", () -> x.packByte(0, 0), PIECE);
        refused(x, "the last", () -> x.packByte(0, 39), oneTree() & 255);
        file(x, 1, 0, 255);
        bounds(x, "byte of an open PACK", i -> x.packByte(13, i), 0, 15);
        refused(x, "a byte of 255", () -> x.packByte(13, 5), 255);
    }

    private static void rowBad() {
        Watched x = one();
        for (int what = 0; what < 4; what++) {
            int ask = what;
            bounds(x, "row, asked for " + what, i -> x.row(i, ask), 0, 3);
        }
        bounds(x, "what", what -> x.row(0, what), 0, 3);
        refused(x, "KIND of the last", () -> x.row(3, 0), SNAPSHOT);
        refused(x, "DIGEST of the first", () -> x.row(0, 1), onePiece());
        refused(x, "place of the last", () -> x.row(3, 3), 28);
    }

    private static void count() {
        Watched x = one();
        bounds(x, "what", x::count, 0, 6);
        due("rows", x.count(0), 4);
        due("entries of WRITER 0", x.count(5), 1);
        due("entries of WRITER 1", x.count(6), 0);
    }
}
